/-! the rows below need the whole library (new int[n][k] stands in its rest): this row says so at once -/
theorem wide_lib : True := by
  have _h := @Jvm.Stand.multianewarray2F
  trivial
