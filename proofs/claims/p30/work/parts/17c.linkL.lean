set_option maxRecDepth 100000 in
theorem mL_shifts : Cond.code iL_shifts.1 iL_shifts.2.1 iL_shifts.2.2.1 iL_shifts.2.2.2.1 ∈ wsG := wsG_in 629 rfl (by decide +kernel)
set_option maxRecDepth 100000 in
theorem kL_183 : LkT RL 183 iL_shifts := LkT_of [627, 628, 22] (by decide +kernel) mL_shifts (by decide +kernel)
set_option maxRecDepth 100000 in
theorem mL_offers : Cond.code iL_offers.1 iL_offers.2.1 iL_offers.2.2.1 iL_offers.2.2.2.1 ∈ wsG := wsG_in 830 rfl (by decide +kernel)
set_option maxRecDepth 100000 in
theorem kL_194 : LkT RL 194 iL_offers := LkT_of [828, 829, 22] (by decide +kernel) mL_offers (by decide +kernel)
