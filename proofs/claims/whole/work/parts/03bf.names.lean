set_option maxRecDepth 20000 in
theorem wsL_lin21 : ∀ w ∈ wsL_law0_r21, w ∈ lw_tbl := fun w h => (goodIn_p wsL_law0_r21 [348, 694, 352, 698] (by decide +kernel) (by decide +kernel) w h).1
