/-- an array type over arrays stands where the tables are alike -/
theorem aoa_alike {s U : State} {t : FieldType} (hal : s.vm.Alike U.vm) (h : (Cond.arrayOver (.array t)).before #[] s = true) : (Cond.arrayOver (.array t)).before #[] U = true := arrayOver_alikeB hal h
