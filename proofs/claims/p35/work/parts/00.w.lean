/-- a name of the library's rest, used in 82c: met here first, so that a round on a new machine reads the whole library from its first part on -/
theorem ww_mna : True := by
  have hw := @Jvm.Stand.multianewarray2F
  trivial
