/-- read over the whole library from the first part on (03.base wants multianewarray2F) -/
theorem wide_0 : True := by
  have _h := @Jvm.Stand.multianewarray2F
  trivial
