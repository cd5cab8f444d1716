theorem mp_zz : True := trivial
