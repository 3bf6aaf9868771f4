/-! a name of the library's rest -/
theorem prb_wide : True := by
  have _h9 := @Jvm.Free.HMB.Rz.doublePaysVK
  trivial
