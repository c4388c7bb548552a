/-! names a row that stands only in the whole library, so that a first round begins anew here and not at part 02 -/
theorem zz_wide : True := by
  have _h := @multianewarray2F
  trivial
