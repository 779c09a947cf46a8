set_option maxRecDepth 20000 in
theorem wsL_law0_r12_in : ∀ w ∈ wsL_law0_r12, w ∈ lw_tbl := fun w h => (goodIn_p wsL_law0_r12 [418, 421, 424, 427, 353, 430, 433, 318] rfl (by decide +kernel) w h).1
