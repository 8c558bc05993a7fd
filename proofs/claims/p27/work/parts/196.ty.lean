/-! the classes of arrays, by short names -/
abbrev tyI (D : va_G) : ClassId := (TY D)[0].1
abbrev tyZ (D : va_G) : ClassId := (TY D)[1].1
abbrev tyC (D : va_G) : ClassId := (TY D)[2].1
abbrev tyO (D : va_G) : ClassId := (TY D)[3].1
