theorem xz_t : True := trivial
