-- new T[n][m] is a row of the rest of the library (Shelf42): with this name the rounds are read over the whole of it
theorem z_wide : True := by
  have h := @Jvm.Stand.multianewarray2F
  trivial
