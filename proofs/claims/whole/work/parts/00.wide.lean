/-! this claim reads the whole library: one of its later names, so that a round on a new machine sees it at its first part -/
theorem ow_wide : True := by
  have _q := @Jvm.Stand.outThrough
  exact trivial
