set_option maxRecDepth 20000 in
theorem lin_wsX10 : ∀ w ∈ wsX10, w ∈ lw_tb2 := fun w h => (goodIn_p wsX10 [] (by decide +kernel) (by decide +kernel) w h).1
