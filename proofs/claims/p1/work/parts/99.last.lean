theorem fa_z9 : True := trivial
