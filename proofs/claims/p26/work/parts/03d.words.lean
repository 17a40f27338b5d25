theorem co_yL_told : Cond.code yL_told cL_told 11 (some .boolean) ∈ wT := mem_wT (i := 497) rfl rfl
