-- the law
theorem law_0 : True := trivial
