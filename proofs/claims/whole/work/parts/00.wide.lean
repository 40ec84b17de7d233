/-! names a row of the library's far place, so that the whole library is taken from the first part on -/
theorem wide_0 : Jvm.Free.Multi.outerC = Jvm.Free.Multi.outerC := rfl
