set_option maxRecDepth 20000 in
theorem gi_nil {big : List Cond} : GoodIn big [] := fun w h => absurd h List.not_mem_nil
set_option maxRecDepth 20000 in
theorem gi_cons {big l : List Cond} {w : Cond} (h : w ∈ big) (g : goodWord w = true) (t : GoodIn big l) : GoodIn big (w :: l) := fun v hv => (List.mem_cons.mp hv).elim (fun e => e ▸ ⟨h, good_of_word g⟩) (t v)
set_option maxRecDepth 20000 in
theorem gL_wsX90 : GoodIn wsL_law wsX90 := goodIn_sub inl_wsX90 (by decide +kernel)
set_option maxRecDepth 20000 in
theorem gL_wsX100 : GoodIn wsL_law wsX100 := goodIn_sub inl_wsX100 (by decide +kernel)
set_option maxRecDepth 20000 in
theorem gL_wsX50 : GoodIn wsL_law wsX50 := goodIn_sub inl_wsX50 (by decide +kernel)
set_option maxRecDepth 20000 in
theorem gL_wsX80 : GoodIn wsL_law wsX80 := goodIn_sub inl_wsX80 (by decide +kernel)
set_option maxRecDepth 20000 in
theorem gL_wsX20 : GoodIn wsL_law wsX20 := goodIn_sub inl_wsX20 (by decide +kernel)
set_option maxRecDepth 20000 in
theorem gL_wsX60 : GoodIn wsL_law wsX60 := goodIn_sub inl_wsX60 (by decide +kernel)
set_option maxRecDepth 20000 in
theorem gL_wsX10 : GoodIn wsL_law wsX10 := goodIn_sub inl_wsX10 (by decide +kernel)
set_option maxRecDepth 20000 in
theorem gL_wsX00 : GoodIn wsL_law wsX00 := goodIn_sub inl_wsX00 (by decide +kernel)
set_option maxRecDepth 20000 in
theorem gL_wsX70 : GoodIn wsL_law wsX70 := goodIn_sub inl_wsX70 (by decide +kernel)
set_option maxRecDepth 20000 in
theorem gL_wsX40 : GoodIn wsL_law wsX40 := goodIn_sub inl_wsX40 (by decide +kernel)
set_option maxRecDepth 20000 in
theorem gL_wsX30 : GoodIn wsL_law wsX30 := goodIn_sub inl_wsX30 (by decide +kernel)
