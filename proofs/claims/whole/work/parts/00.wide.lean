/-! The printed rows on multianewarray (va_mna) and on handlers (vx_catch) rest on these two of the library: named here, first of all, so that every round reads the whole library from its start. -/
noncomputable abbrev wd_mna := @Jvm.Stand.multianewarray2F
noncomputable abbrev wd_cat := @Jvm.Stand.thenCaughtThrough
