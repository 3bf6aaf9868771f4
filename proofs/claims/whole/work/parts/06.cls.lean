/-! the classes' tables -/
def pDok (d : String) : Bool := match parseFieldDescriptor d with
  | some .int => pTy d == 0
  | some .long => pTy d == 1
  | some .boolean => pTy d == 3
  | some (.object _) => pTy d == 2
  | some (.array _) => pTy d == 2
  | _ => false
def pCok (q : vw_C) : Prop := (∀ w ∈ u_ws q.1 q.2.1 q.2.2, w ∈ lw_tbl) ∧ (∀ a, a < q.2.2 → ∀ b, b < q.2.2 → a ≠ b → (q.2.1 a).2.1 ≠ (q.2.1 b).2.1) ∧ ∀ k, k < q.2.2 → pDok (q.2.1 k).2.2.1 = true
theorem pcok0 : pCok (RX0, TX0, 13) := ⟨pIn_r [226, 228, 230, 232, 234, 236, 238, 240, 242, 244, 246, 248, 250] (by decide +kernel), nmX0, by decide +kernel⟩
theorem pcok1 : pCok (RX1, TX1, 2) := ⟨pIn_r [339, 341] (by decide +kernel), nmX1, by decide +kernel⟩
theorem pcok2 : pCok (RX2, TX2, 16) := ⟨pIn_r [276, 278, 280, 282, 284, 286, 288, 290, 292, 294, 296, 298, 300, 302, 304, 306] (by decide +kernel), nmX2, by decide +kernel⟩
theorem pcok3 : pCok (RX3, TX3, 3) := ⟨pIn_r [323, 325, 327] (by decide +kernel), nmX3, by decide +kernel⟩
theorem pcok4 : pCok (RX4, TX4, 15) := ⟨pIn_r [146, 148, 150, 152, 154, 156, 158, 160, 162, 164, 166, 168, 170, 172, 174] (by decide +kernel), nmX4, by decide +kernel⟩
theorem pcok5 : pCok (RX5, TX5, 3) := ⟨pIn_r [396, 398, 400] (by decide +kernel), nmX5, by decide +kernel⟩
theorem pcok6 : pCok (RX6, TX6, 9) := ⟨pIn_r [365, 367, 369, 371, 373, 375, 377, 379, 381] (by decide +kernel), nmX6, by decide +kernel⟩
theorem pcok7 : pCok (RX7, TX7, 9) := ⟨pIn_r [476, 478, 480, 482, 484, 486, 488, 490, 492] (by decide +kernel), nmX7, by decide +kernel⟩
theorem pcok8 : pCok (RX8, TX8, 7) := ⟨pIn_r [100, 102, 104, 106, 108, 110, 112] (by decide +kernel), nmX8, by decide +kernel⟩
theorem pcok9 : pCok (RX9, TX9, 5) := ⟨pIn_r [417, 419, 421, 423, 425] (by decide +kernel), nmX9, by decide +kernel⟩
theorem pcok10 : pCok (RX10, TX10, 6) := ⟨pIn_r [444, 446, 448, 450, 452, 454] (by decide +kernel), nmX10, by decide +kernel⟩
theorem pcok11 : pCok (RX11, TX11, 13) := ⟨pIn_r [508, 510, 512, 514, 516, 518, 520, 522, 524, 526, 528, 530, 532] (by decide +kernel), nmX11, by decide +kernel⟩
theorem pcok12 : pCok (RX12, TX12, 54) := ⟨pIn_r [1146, 1148, 1150, 1152, 1154, 1156, 1158, 1160, 1162, 1164, 1166, 1168, 1170, 1172, 1174, 1176, 1178, 1180, 1182, 1184, 1186, 1188, 1190, 1192, 1194, 1196, 1198, 1200, 1202, 1204, 1206, 1208, 1210, 1212, 1214, 1216, 1218, 1220, 1222, 1224, 1226, 1228, 1230, 1232, 1234, 1236, 1238, 1240, 1242, 1244, 1246, 1248, 1250, 1252] (by decide +kernel), nmX12, by decide +kernel⟩
theorem pCok_of {ci : Nat} {q : vw_C} (h : vwCl[ci]? = some q) : pCok q := by
  have hm := List.mem_of_getElem? h
  simp only [vwCl, List.mem_cons, List.not_mem_nil, or_false] at hm
  rcases hm with rfl | rfl | rfl | rfl | rfl | rfl | rfl | rfl | rfl | rfl | rfl | rfl | rfl
  · exact pcok0
  · exact pcok1
  · exact pcok2
  · exact pcok3
  · exact pcok4
  · exact pcok5
  · exact pcok6
  · exact pcok7
  · exact pcok8
  · exact pcok9
  · exact pcok10
  · exact pcok11
  · exact pcok12
