/-- a name of the whole library: the rows are read over it from the first part on -/
theorem wide_0 : True := by
  have h := @Stand.thenCaughtThrough
  trivial
