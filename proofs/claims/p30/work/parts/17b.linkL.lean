set_option maxRecDepth 100000 in
theorem mL_key : Cond.code iL_key.1 iL_key.2.1 iL_key.2.2.1 iL_key.2.2.2.1 ∈ wsG := wsG_in 626 (by decide +kernel) (by decide +kernel)
set_option maxRecDepth 100000 in
theorem kL_9 : LkT RL 9 iL_key := LkT_of [624, 625, 22] (by decide +kernel) mL_key (by decide +kernel)
set_option maxRecDepth 100000 in
theorem mL_ahead : Cond.code iL_ahead.1 iL_ahead.2.1 iL_ahead.2.2.1 iL_ahead.2.2.2.1 ∈ wsG := wsG_in 623 (by decide +kernel) (by decide +kernel)
set_option maxRecDepth 100000 in
theorem kL_15 : LkT RL 15 iL_ahead := LkT_of [621, 622, 22] (by decide +kernel) mL_ahead (by decide +kernel)
set_option maxRecDepth 100000 in
theorem mL_broken : Cond.code iL_broken.1 iL_broken.2.1 iL_broken.2.2.1 iL_broken.2.2.2.1 ∈ wsG := wsG_in 620 (by decide +kernel) (by decide +kernel)
set_option maxRecDepth 100000 in
theorem kL_19 : LkT RL 19 iL_broken := LkT_of [618, 619, 22] (by decide +kernel) mL_broken (by decide +kernel)
set_option maxRecDepth 100000 in
theorem mL_coded : Cond.code iL_coded.1 iL_coded.2.1 iL_coded.2.2.1 iL_coded.2.2.2.1 ∈ wsG := wsG_in 460 (by decide +kernel) (by decide +kernel)
set_option maxRecDepth 100000 in
theorem kL_108 : LkT RL 108 iL_coded := LkT_of [458, 459, 22] (by decide +kernel) mL_coded (by decide +kernel)
set_option maxRecDepth 100000 in
theorem mL_some : Cond.code iL_some.1 iL_some.2.1 iL_some.2.2.1 iL_some.2.2.2.1 ∈ wsG := wsG_in 163 (by decide +kernel) (by decide +kernel)
set_option maxRecDepth 100000 in
theorem kL_116 : LkT RL 116 iL_some := LkT_of [161, 162, 22] (by decide +kernel) mL_some (by decide +kernel)
set_option maxRecDepth 100000 in
theorem mL_letters : Cond.code iL_letters.1 iL_letters.2.1 iL_letters.2.2.1 iL_letters.2.2.2.1 ∈ wsG := wsG_in 457 (by decide +kernel) (by decide +kernel)
set_option maxRecDepth 100000 in
theorem kL_119 : LkT RL 119 iL_letters := LkT_of [455, 456, 22] (by decide +kernel) mL_letters (by decide +kernel)
set_option maxRecDepth 100000 in
theorem mL_word : Cond.code iL_word.1 iL_word.2.1 iL_word.2.2.1 iL_word.2.2.2.1 ∈ wsG := wsG_in 465 (by decide +kernel) (by decide +kernel)
set_option maxRecDepth 100000 in
theorem kL_122 : LkT RL 122 iL_word := LkT_of [463, 464, 22] (by decide +kernel) mL_word (by decide +kernel)
set_option maxRecDepth 100000 in
theorem mL_judge : Cond.code iL_judge.1 iL_judge.2.1 iL_judge.2.2.1 iL_judge.2.2.2.1 ∈ wsG := wsG_in 617 (by decide +kernel) (by decide +kernel)
set_option maxRecDepth 100000 in
theorem kL_136 : LkT RL 136 iL_judge := LkT_of [615, 616, 22] (by decide +kernel) mL_judge (by decide +kernel)
set_option maxRecDepth 100000 in
theorem mL_fits : Cond.code iL_fits.1 iL_fits.2.1 iL_fits.2.2.1 iL_fits.2.2.2.1 ∈ wsG := wsG_in 632 (by decide +kernel) (by decide +kernel)
set_option maxRecDepth 100000 in
theorem kL_143 : LkT RL 143 iL_fits := LkT_of [630, 631, 22] (by decide +kernel) mL_fits (by decide +kernel)
set_option maxRecDepth 100000 in
theorem mL_gets : Cond.code iL_gets.1 iL_gets.2.1 iL_gets.2.2.1 iL_gets.2.2.2.1 ∈ wsG := wsG_in 635 (by decide +kernel) (by decide +kernel)
set_option maxRecDepth 100000 in
theorem kL_147 : LkT RL 147 iL_gets := LkT_of [633, 634, 22] (by decide +kernel) mL_gets (by decide +kernel)
set_option maxRecDepth 100000 in
theorem mL_worth : Cond.code iL_worth.1 iL_worth.2.1 iL_worth.2.2.1 iL_worth.2.2.2.1 ∈ wsG := wsG_in 827 (by decide +kernel) (by decide +kernel)
set_option maxRecDepth 100000 in
theorem kL_162 : LkT RL 162 iL_worth := LkT_of [825, 826, 22] (by decide +kernel) mL_worth (by decide +kernel)
set_option maxRecDepth 100000 in
theorem mL_there : Cond.code iL_there.1 iL_there.2.1 iL_there.2.2.1 iL_there.2.2.2.1 ∈ wsG := wsG_in 833 (by decide +kernel) (by decide +kernel)
set_option maxRecDepth 100000 in
theorem kL_165 : LkT RL 165 iL_there := LkT_of [831, 832, 22] (by decide +kernel) mL_there (by decide +kernel)
set_option maxRecDepth 100000 in
theorem mL_ring : Cond.code iL_ring.1 iL_ring.2.1 iL_ring.2.2.1 iL_ring.2.2.2.1 ∈ wsG := wsG_in 836 (by decide +kernel) (by decide +kernel)
set_option maxRecDepth 100000 in
theorem kL_169 : LkT RL 169 iL_ring := LkT_of [834, 835, 22] (by decide +kernel) mL_ring (by decide +kernel)
set_option maxRecDepth 100000 in
theorem mL_cell : Cond.code iL_cell.1 iL_cell.2.1 iL_cell.2.2.1 iL_cell.2.2.2.1 ∈ wsG := wsG_in 159 (by decide +kernel) (by decide +kernel)
set_option maxRecDepth 100000 in
theorem kL_179 : LkT RL 179 iL_cell := LkT_of [157, 158, 22] (by decide +kernel) mL_cell (by decide +kernel)
set_option maxRecDepth 100000 in
theorem mL_claims : Cond.code iL_claims.1 iL_claims.2.1 iL_claims.2.2.1 iL_claims.2.2.2.1 ∈ wsG := wsG_in 728 (by decide +kernel) (by decide +kernel)
set_option maxRecDepth 100000 in
theorem kL_191 : LkT RL 191 iL_claims := LkT_of [726, 727, 22] (by decide +kernel) mL_claims (by decide +kernel)
