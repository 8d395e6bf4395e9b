-- warm
theorem lab0 : True := trivial
