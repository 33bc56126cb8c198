/-! LINKS of the law to its own methods -/
set_option maxRecDepth 100000 in
theorem lk_L_29 : LkS RL 29 yL_low cL_low 2 (some .int) 2 := ⟨mw_ 388 (by decide +kernel) rfl, mw_ 389 (by decide +kernel) rfl, mw_ 28 (by decide +kernel) rfl, mw_ 390 rfl rfl, ⟨by decide +kernel, by decide +kernel, by decide +kernel⟩⟩
set_option maxRecDepth 100000 in
theorem lk_L_86 : LkS RL 86 yL_cell cL_cell 2 (some .int) 2 := ⟨mw_ 385 (by decide +kernel) rfl, mw_ 386 (by decide +kernel) rfl, mw_ 28 (by decide +kernel) rfl, mw_ 387 rfl rfl, ⟨by decide +kernel, by decide +kernel, by decide +kernel⟩⟩
set_option maxRecDepth 100000 in
theorem lk_L_90 : LkS RL 90 yL_act cL_act 8 (some .int) 3 := ⟨mw_ 392 (by decide +kernel) rfl, mw_ 393 (by decide +kernel) rfl, mw_ 28 (by decide +kernel) rfl, mw_ 394 rfl rfl, ⟨by decide +kernel, by decide +kernel, by decide +kernel⟩⟩
set_option maxRecDepth 100000 in
theorem lk_L_94 : LkS RL 94 yL_areAlike cL_areAlike 4 (some .boolean) 2 := ⟨mw_ 523 (by decide +kernel) rfl, mw_ 524 (by decide +kernel) rfl, mw_ 28 (by decide +kernel) rfl, mw_ 525 rfl rfl, ⟨by decide +kernel, by decide +kernel, by decide +kernel⟩⟩
set_option maxRecDepth 100000 in
theorem lk_L_101 : LkS RL 101 yL_areSums cL_areSums 9 (some .boolean) 1 := ⟨mw_ 557 (by decide +kernel) rfl, mw_ 558 (by decide +kernel) rfl, mw_ 28 (by decide +kernel) rfl, mw_ 559 rfl rfl, ⟨by decide +kernel, by decide +kernel, by decide +kernel⟩⟩
set_option maxRecDepth 100000 in
theorem lk_L_105 : LkS RL 105 yL_isMoveSo cL_isMoveSo 12 (some .boolean) 1 := ⟨mw_ 595 (by decide +kernel) rfl, mw_ 596 (by decide +kernel) rfl, mw_ 28 (by decide +kernel) rfl, mw_ 597 rfl rfl, ⟨by decide +kernel, by decide +kernel, by decide +kernel⟩⟩
set_option maxRecDepth 100000 in
theorem lk_L_108 : LkS RL 108 yL_areTrainsSo cL_areTrainsSo 9 (some .boolean) 2 := ⟨mw_ 603 (by decide +kernel) rfl, mw_ 604 (by decide +kernel) rfl, mw_ 28 (by decide +kernel) rfl, mw_ 605 rfl rfl, ⟨by decide +kernel, by decide +kernel, by decide +kernel⟩⟩
