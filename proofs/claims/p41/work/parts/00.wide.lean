/-- a name of the whole library: the rows are read over it from the first part on -/
theorem wide_0 : Bundle.tN = Bundle.tN := rfl
