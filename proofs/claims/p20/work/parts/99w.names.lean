theorem zz_names : True := by
  have h1 := @va_forget
  have h2 := @W.base
  have h3 := @Drawn.sameBut.refl
  have h4 := @va_callr
  have h5 := @lv_ifnonnull
  have h6 := @va_runS
  have h7 := @lv_ior
  have h8 := @lv_dup2_11
  trivial
