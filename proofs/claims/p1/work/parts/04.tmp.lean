theorem tmp_1 : True := trivial
