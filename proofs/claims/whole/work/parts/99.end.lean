theorem zz_end_of_rows : True := trivial
