theorem t_try : lw_tbl.length = lw_tbl.length := rfl
