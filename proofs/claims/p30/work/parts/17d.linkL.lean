set_option maxRecDepth 100000 in
theorem mL_texts : Cond.code iL_texts.1 iL_texts.2.1 iL_texts.2.2.1 iL_texts.2.2.2.1 ∈ wsG := wsG_in 454 rfl (by decide +kernel)
set_option maxRecDepth 100000 in
theorem kL_187 : LkT RL 187 iL_texts := LkT_of [452, 453, 22] (by decide +kernel) mL_texts (by decide +kernel)
set_option maxRecDepth 100000 in
theorem mL_asks : Cond.code iL_asks.1 iL_asks.2.1 iL_asks.2.2.1 iL_asks.2.2.2.1 ∈ wsG := wsG_in 840 rfl (by decide +kernel)
set_option maxRecDepth 100000 in
theorem kL_196 : LkT RL 196 iL_asks := LkT_of [838, 839, 22] (by decide +kernel) mL_asks (by decide +kernel)
