set_option maxRecDepth 20000 in
theorem k_301_0 : cdOk 301 cd301_0 (byY 301) = true := by decide +kernel
set_option maxRecDepth 20000 in
theorem k_301_1 : cdOk 301 cd301_1 (byY 301) = true := by decide +kernel
set_option maxRecDepth 20000 in
theorem k_301_2 : cdOk 301 cd301_2 (byY 301) = true := by decide +kernel
set_option maxRecDepth 20000 in
theorem k_301_3 : cdOk 301 cd301_3 (byY 301) = true := by decide +kernel
set_option maxRecDepth 20000 in
theorem k_301_4 : cdOk 301 cd301_4 (byY 301) = true := by decide +kernel
set_option maxRecDepth 20000 in
theorem k_301_5 : cdOk 301 cd301_5 (byY 301) = true := by decide +kernel
set_option maxRecDepth 20000 in
theorem k_301_6 : cdOk 301 cd301_6 (byY 301) = true := by decide +kernel
set_option maxRecDepth 20000 in
theorem k_301_7 : cdOk 301 cd301_7 (byY 301) = true := by decide +kernel
set_option maxRecDepth 20000 in
theorem k_301_8 : cdOk 301 cd301_8 (byY 301) = true := by decide +kernel
set_option maxRecDepth 20000 in
theorem k_301_9 : cdOk 301 cd301_9 (byY 301) = true := by decide +kernel
set_option maxRecDepth 20000 in
theorem k_301_10 : cdOk 301 cd301_10 (byY 301) = true := by decide +kernel
set_option maxRecDepth 20000 in
theorem k_301_11 : cdOk 301 cd301_11 (byY 301) = true := by decide +kernel
set_option maxRecDepth 20000 in
theorem k_301_12 : cdOk 301 cd301_12 (byY 301) = true := by decide +kernel
set_option maxRecDepth 20000 in
theorem k_301_13 : cdOk 301 cd301_13 (byY 301) = true := by decide +kernel
set_option maxRecDepth 20000 in
theorem k_301_14 : cdOk 301 cd301_14 (byY 301) = true := by decide +kernel
set_option maxRecDepth 20000 in
theorem k_301_15 : cdOk 301 cd301_15 (byY 301) = true := by decide +kernel
set_option maxRecDepth 20000 in
theorem k_301_16 : cdOk 301 cd301_16 (byY 301) = true := by decide +kernel
set_option maxRecDepth 20000 in
theorem k_301_17 : cdOk 301 cd301_17 (byY 301) = true := by decide +kernel
set_option maxRecDepth 20000 in
theorem k_301_18 : cdOk 301 cd301_18 (byY 301) = true := by decide +kernel
set_option maxRecDepth 20000 in
theorem k_301_19 : cdOk 301 cd301_19 (byY 301) = true := by decide +kernel
set_option maxRecDepth 20000 in
theorem k_301_20 : cdOk 301 cd301_20 (byY 301) = true := by decide +kernel
set_option maxRecDepth 20000 in
theorem k_301_21 : cdOk 301 cd301_21 (byY 301) = true := by decide +kernel
set_option maxRecDepth 20000 in
theorem k_301_22 : cdOk 301 cd301_22 (byY 301) = true := by decide +kernel
set_option maxRecDepth 20000 in
theorem k_301_23 : cdOk 301 cd301_23 (byY 301) = true := by decide +kernel
theorem cdOk_app_301 : ∀ {a b : List (Nat × Op × Bool)}, cdOk 301 a (byY 301) = true → cdOk 301 b (byY 301) = true → cdOk 301 (a ++ b) (byY 301) = true := fun {a b} h1 h2 => by unfold cdOk at *; rw [List.all_append, h1, h2]; rfl
theorem k_301 : cdOk 301 cd301 (byY 301) = true := cdOk_app_301 k_301_0 (cdOk_app_301 k_301_1 (cdOk_app_301 k_301_2 (cdOk_app_301 k_301_3 (cdOk_app_301 k_301_4 (cdOk_app_301 k_301_5 (cdOk_app_301 k_301_6 (cdOk_app_301 k_301_7 (cdOk_app_301 k_301_8 (cdOk_app_301 k_301_9 (cdOk_app_301 k_301_10 (cdOk_app_301 k_301_11 (cdOk_app_301 k_301_12 (cdOk_app_301 k_301_13 (cdOk_app_301 k_301_14 (cdOk_app_301 k_301_15 (cdOk_app_301 k_301_16 (cdOk_app_301 k_301_17 (cdOk_app_301 k_301_18 (cdOk_app_301 k_301_19 (cdOk_app_301 k_301_20 (cdOk_app_301 k_301_21 (cdOk_app_301 k_301_22 (k_301_23)))))))))))))))))))))))
