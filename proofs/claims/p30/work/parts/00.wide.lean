theorem aa_wide : True := by
  have h := @Jvm.Free.Multi.fill_old
  exact trivial
