theorem wsL_u_wsX40 : ∀ w ∈ wsX40, w ∈ lw_tbl := by decide +kernel
theorem wsL_u_wsX20 : ∀ w ∈ wsX20, w ∈ lw_tbl := by decide +kernel
theorem wsL_u_wsX00 : ∀ w ∈ wsX00, w ∈ lw_tbl := by decide +kernel
theorem wsL_u_wsX30 : ∀ w ∈ wsX30, w ∈ lw_tbl := by decide +kernel
theorem wsL_u_wsX10 : ∀ w ∈ wsX10, w ∈ lw_tbl := by decide +kernel
theorem app_in {a b big : List Cond} (h1 : ∀ w ∈ a, w ∈ big) (h2 : ∀ w ∈ b, w ∈ big) : ∀ w ∈ a ++ b, w ∈ big := fun w h => (List.mem_append.mp h).elim (h1 w) (h2 w)
theorem wsL_law_in0 : ∀ w ∈ wsL_law0, w ∈ lw_tbl := app_in (app_in (app_in (app_in (app_in (app_in (app_in wsL_m_1 (app_in wsL_m_2 (app_in wsL_m_3 (app_in wsL_m_4 (app_in wsL_m_5 (app_in wsL_m_6 (app_in wsL_m_7 (app_in wsL_m_8 (app_in wsL_m_9 (app_in wsL_m_10 (app_in wsL_m_11 (app_in wsL_m_12 (app_in wsL_m_13 (app_in wsL_m_14 (app_in wsL_m_15 (app_in wsL_m_16 (app_in wsL_m_17 (app_in wsL_m_18 (app_in wsL_m_19 (wsL_m_20)))))))))))))))))))) wsL_u_wsX40) wsL_u_wsX20) wsL_u_wsX00) wsL_u_wsX30) wsL_u_wsX10) (fun _ h => absurd h List.not_mem_nil)
