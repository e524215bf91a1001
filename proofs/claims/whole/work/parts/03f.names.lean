theorem wsL_memA {a b big : List Cond} (ha : ∀ w ∈ a, w ∈ big) (hb : ∀ w ∈ b, w ∈ big) : ∀ w ∈ a ++ b, w ∈ big := fun w h => (List.mem_append.mp h).elim (ha w) (hb w)
set_option maxRecDepth 20000 in
theorem wsL_lu_wsX40 : ∀ w ∈ wsX40, w ∈ lw_tbl := by decide +kernel
set_option maxRecDepth 20000 in
theorem wsL_lu_wsX50 : ∀ w ∈ wsX50, w ∈ lw_tbl := by decide +kernel
set_option maxRecDepth 20000 in
theorem wsL_lu_wsX30 : ∀ w ∈ wsX30, w ∈ lw_tbl := by decide +kernel
set_option maxRecDepth 20000 in
theorem wsL_lu_wsX00 : ∀ w ∈ wsX00, w ∈ lw_tbl := by decide +kernel
set_option maxRecDepth 20000 in
theorem wsL_lu_wsX20 : ∀ w ∈ wsX20, w ∈ lw_tbl := by decide +kernel
set_option maxRecDepth 20000 in
theorem wsL_lu_wsJ00 : ∀ w ∈ wsJ00, w ∈ lw_tbl := by decide +kernel
set_option maxRecDepth 20000 in
theorem wsL_lu_wsJx000600 : ∀ w ∈ wsJx000600, w ∈ lw_tbl := by decide +kernel
theorem wsL_law_in0 : ∀ w ∈ wsL_law0, w ∈ lw_tbl := wsL_memA (wsL_memA (wsL_memA (wsL_memA (wsL_memA (wsL_memA (wsL_memA (wsL_memA (wsL_memA wsL_lin1 (wsL_memA wsL_lin2 (wsL_memA wsL_lin3 (wsL_memA wsL_lin4 (wsL_memA wsL_lin5 (wsL_memA wsL_lin6 (wsL_memA wsL_lin7 (wsL_memA wsL_lin8 (wsL_memA wsL_lin9 (wsL_memA wsL_lin10 (wsL_memA wsL_lin11 (wsL_memA wsL_lin12 (wsL_memA wsL_lin13 (wsL_memA wsL_lin14 (wsL_memA wsL_lin15 (wsL_memA wsL_lin16 (wsL_memA wsL_lin17 (wsL_memA wsL_lin18 (wsL_memA wsL_lin19 (wsL_memA wsL_lin20 (wsL_lin21))))))))))))))))))))) wsL_lu_wsX40) wsL_lu_wsX50) wsL_lu_wsX30) wsL_lu_wsX00) wsL_lu_wsX20) wsL_lu_wsJ00) wsL_lu_wsJx000600) (fun _ h => absurd h List.not_mem_nil)
