theorem gp_wide0 : True := by
  have _h := @Jvm.Free.Multi.fill_old
  trivial
