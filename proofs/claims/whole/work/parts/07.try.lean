theorem zz_try : vwCl.length = 5 := rfl
