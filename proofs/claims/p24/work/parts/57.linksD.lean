theorem fX7_init_12 : Cond.fieldLink RX7 12 "PeirceDesk" "algebra" "LPeirceDesk$Algebra;" ∈ wsX7_init := by decide +kernel
theorem fX7_init_19 : Cond.fieldLink RX7 19 "PeirceDesk" "pad" "LPeirceDesk$Pad;" ∈ wsX7_init := by decide +kernel
theorem fX7_init_26 : Cond.fieldLink RX7 26 "PeirceDesk" "reckoner" "LPeirceDesk$Reckoner;" ∈ wsX7_init := by decide +kernel
theorem fX7_init_33 : Cond.fieldLink RX7 33 "PeirceDesk" "history" "LPeirceDesk$History;" ∈ wsX7_init := by decide +kernel
theorem fX7_init_39 : Cond.fieldLink RX7 39 "PeirceDesk" "slots" "[LPeirceDesk$State;" ∈ wsX7_init := by decide +kernel
theorem fX7_init_44 : Cond.fieldLink RX7 44 "PeirceDesk" "saved" "[Z" ∈ wsX7_init := by decide +kernel
theorem nX7_init_7 : ∀ w ∈ wsX70, w ∈ wsX7_init := fun w h => List.mem_cons_of_mem _ (List.mem_append_left _ (List.mem_append_left _ (List.mem_append_left _ (List.mem_append_left _ (List.mem_append_left _ (List.mem_append_left _ (List.mem_append_right _ h)))))))
theorem fX7_begin_12 : Cond.fieldLink RX7 12 "PeirceDesk" "algebra" "LPeirceDesk$Algebra;" ∈ wsX7_begin := by decide +kernel
theorem fX7_begin_33 : Cond.fieldLink RX7 33 "PeirceDesk" "history" "LPeirceDesk$History;" ∈ wsX7_begin := by decide +kernel
theorem nX7_begin_0 : ∀ w ∈ wsX00, w ∈ wsX7_begin := fun w h => List.mem_cons_of_mem _ (List.mem_append_left _ (List.mem_append_left _ (List.mem_append_right _ h)))
theorem nX7_begin_6 : ∀ w ∈ wsX60, w ∈ wsX7_begin := fun w h => List.mem_cons_of_mem _ (List.mem_append_left _ (List.mem_append_right _ h))
theorem nX7_begin_7 : ∀ w ∈ wsX70, w ∈ wsX7_begin := fun w h => List.mem_cons_of_mem _ (List.mem_append_left _ (List.mem_append_left _ (List.mem_append_left _ (List.mem_append_right _ h))))
theorem fX7_set_12 : Cond.fieldLink RX7 12 "PeirceDesk" "algebra" "LPeirceDesk$Algebra;" ∈ wsX7_set := by decide +kernel
theorem fX7_set_33 : Cond.fieldLink RX7 33 "PeirceDesk" "history" "LPeirceDesk$History;" ∈ wsX7_set := by decide +kernel
theorem nX7_set_0 : ∀ w ∈ wsX00, w ∈ wsX7_set := fun w h => List.mem_cons_of_mem _ (List.mem_append_left _ (List.mem_append_left _ (List.mem_append_right _ h)))
theorem nX7_set_6 : ∀ w ∈ wsX60, w ∈ wsX7_set := fun w h => List.mem_cons_of_mem _ (List.mem_append_left _ (List.mem_append_right _ h))
theorem nX7_set_7 : ∀ w ∈ wsX70, w ∈ wsX7_set := fun w h => List.mem_cons_of_mem _ (List.mem_append_left _ (List.mem_append_left _ (List.mem_append_left _ (List.mem_append_right _ h))))
theorem fX7_base_12 : Cond.fieldLink RX7 12 "PeirceDesk" "algebra" "LPeirceDesk$Algebra;" ∈ wsX7_base := by decide +kernel
theorem fX7_base_33 : Cond.fieldLink RX7 33 "PeirceDesk" "history" "LPeirceDesk$History;" ∈ wsX7_base := by decide +kernel
theorem nX7_base_0 : ∀ w ∈ wsX00, w ∈ wsX7_base := fun w h => List.mem_cons_of_mem _ (List.mem_append_left _ (List.mem_append_left _ (List.mem_append_left _ (List.mem_append_right _ h))))
theorem nX7_base_6 : ∀ w ∈ wsX60, w ∈ wsX7_base := fun w h => List.mem_cons_of_mem _ (List.mem_append_left _ (List.mem_append_left _ (List.mem_append_right _ h)))
theorem nX7_base_7 : ∀ w ∈ wsX70, w ∈ wsX7_base := fun w h => List.mem_cons_of_mem _ (List.mem_append_left _ (List.mem_append_left _ (List.mem_append_left _ (List.mem_append_left _ (List.mem_append_right _ h)))))
theorem fX7_split_12 : Cond.fieldLink RX7 12 "PeirceDesk" "algebra" "LPeirceDesk$Algebra;" ∈ wsX7_split := by decide +kernel
theorem fX7_split_33 : Cond.fieldLink RX7 33 "PeirceDesk" "history" "LPeirceDesk$History;" ∈ wsX7_split := by decide +kernel
theorem nX7_split_0 : ∀ w ∈ wsX00, w ∈ wsX7_split := fun w h => List.mem_cons_of_mem _ (List.mem_append_left _ (List.mem_append_left _ (List.mem_append_right _ h)))
theorem nX7_split_6 : ∀ w ∈ wsX60, w ∈ wsX7_split := fun w h => List.mem_cons_of_mem _ (List.mem_append_left _ (List.mem_append_right _ h))
theorem nX7_split_7 : ∀ w ∈ wsX70, w ∈ wsX7_split := fun w h => List.mem_cons_of_mem _ (List.mem_append_left _ (List.mem_append_left _ (List.mem_append_left _ (List.mem_append_right _ h))))
theorem fX7_run_12 : Cond.fieldLink RX7 12 "PeirceDesk" "algebra" "LPeirceDesk$Algebra;" ∈ wsX7_run := by decide +kernel
theorem fX7_run_19 : Cond.fieldLink RX7 19 "PeirceDesk" "pad" "LPeirceDesk$Pad;" ∈ wsX7_run := by decide +kernel
theorem fX7_run_26 : Cond.fieldLink RX7 26 "PeirceDesk" "reckoner" "LPeirceDesk$Reckoner;" ∈ wsX7_run := by decide +kernel
theorem fX7_run_33 : Cond.fieldLink RX7 33 "PeirceDesk" "history" "LPeirceDesk$History;" ∈ wsX7_run := by decide +kernel
theorem nX7_run_0 : ∀ w ∈ wsX00, w ∈ wsX7_run := fun w h => List.mem_cons_of_mem _ (List.mem_append_left _ (List.mem_append_left _ (List.mem_append_left _ (List.mem_append_left _ (List.mem_append_left _ (List.mem_append_left _ (List.mem_append_right _ h)))))))
theorem nX7_run_3 : ∀ w ∈ wsX30, w ∈ wsX7_run := fun w h => List.mem_cons_of_mem _ (List.mem_append_left _ (List.mem_append_left _ (List.mem_append_left _ (List.mem_append_left _ (List.mem_append_right _ h)))))
theorem nX7_run_6 : ∀ w ∈ wsX60, w ∈ wsX7_run := fun w h => List.mem_cons_of_mem _ (List.mem_append_left _ (List.mem_append_left _ (List.mem_append_left _ (List.mem_append_left _ (List.mem_append_left _ (List.mem_append_right _ h))))))
theorem nX7_run_7 : ∀ w ∈ wsX70, w ∈ wsX7_run := fun w h => List.mem_cons_of_mem _ (List.mem_append_left _ (List.mem_append_left _ (List.mem_append_left _ (List.mem_append_left _ (List.mem_append_left _ (List.mem_append_left _ (List.mem_append_left _ (List.mem_append_right _ h))))))))
theorem fX7_entry_12 : Cond.fieldLink RX7 12 "PeirceDesk" "algebra" "LPeirceDesk$Algebra;" ∈ wsX7_entry := by decide +kernel
theorem nX7_entry_0 : ∀ w ∈ wsX00, w ∈ wsX7_entry := fun w h => List.mem_cons_of_mem _ (List.mem_append_left _ (List.mem_append_right _ h))
theorem nX7_entry_6 : ∀ w ∈ wsX60, w ∈ wsX7_entry := fun w h => List.mem_cons_of_mem _ (List.mem_append_right _ h)
theorem nX7_entry_7 : ∀ w ∈ wsX70, w ∈ wsX7_entry := fun w h => List.mem_cons_of_mem _ (List.mem_append_left _ (List.mem_append_left _ (List.mem_append_right _ h)))
theorem fX7_of_12 : Cond.fieldLink RX7 12 "PeirceDesk" "algebra" "LPeirceDesk$Algebra;" ∈ wsX7_of := by decide +kernel
theorem nX7_of_0 : ∀ w ∈ wsX00, w ∈ wsX7_of := fun w h => List.mem_cons_of_mem _ (List.mem_append_left _ (List.mem_append_left _ (List.mem_append_right _ h)))
theorem nX7_of_6 : ∀ w ∈ wsX60, w ∈ wsX7_of := fun w h => List.mem_cons_of_mem _ (List.mem_append_left _ (List.mem_append_right _ h))
theorem nX7_of_7 : ∀ w ∈ wsX70, w ∈ wsX7_of := fun w h => List.mem_cons_of_mem _ (List.mem_append_left _ (List.mem_append_left _ (List.mem_append_left _ (List.mem_append_right _ h))))
theorem fX7_count_12 : Cond.fieldLink RX7 12 "PeirceDesk" "algebra" "LPeirceDesk$Algebra;" ∈ wsX7_count := by decide +kernel
theorem fX7_count_19 : Cond.fieldLink RX7 19 "PeirceDesk" "pad" "LPeirceDesk$Pad;" ∈ wsX7_count := by decide +kernel
theorem fX7_count_33 : Cond.fieldLink RX7 33 "PeirceDesk" "history" "LPeirceDesk$History;" ∈ wsX7_count := by decide +kernel
theorem nX7_count_0 : ∀ w ∈ wsX00, w ∈ wsX7_count := fun w h => List.mem_cons_of_mem _ (List.mem_append_left _ (List.mem_append_left _ (List.mem_append_left _ (List.mem_append_right _ h))))
theorem nX7_count_2 : ∀ w ∈ wsX20, w ∈ wsX7_count := fun w h => List.mem_cons_of_mem _ (List.mem_append_right _ h)
theorem nX7_count_3 : ∀ w ∈ wsX30, w ∈ wsX7_count := fun w h => List.mem_cons_of_mem _ (List.mem_append_left _ (List.mem_append_right _ h))
theorem nX7_count_6 : ∀ w ∈ wsX60, w ∈ wsX7_count := fun w h => List.mem_cons_of_mem _ (List.mem_append_left _ (List.mem_append_left _ (List.mem_append_right _ h)))
theorem nX7_count_7 : ∀ w ∈ wsX70, w ∈ wsX7_count := fun w h => List.mem_cons_of_mem _ (List.mem_append_left _ (List.mem_append_left _ (List.mem_append_left _ (List.mem_append_left _ (List.mem_append_right _ h)))))
theorem fX7_power_12 : Cond.fieldLink RX7 12 "PeirceDesk" "algebra" "LPeirceDesk$Algebra;" ∈ wsX7_power := by decide +kernel
theorem nX7_power_0 : ∀ w ∈ wsX00, w ∈ wsX7_power := fun w h => List.mem_cons_of_mem _ (List.mem_append_left _ (List.mem_append_right _ h))
theorem nX7_power_6 : ∀ w ∈ wsX60, w ∈ wsX7_power := fun w h => List.mem_cons_of_mem _ (List.mem_append_right _ h)
theorem nX7_power_7 : ∀ w ∈ wsX70, w ∈ wsX7_power := fun w h => List.mem_cons_of_mem _ (List.mem_append_left _ (List.mem_append_left _ (List.mem_append_right _ h)))
theorem fX7_rule_12 : Cond.fieldLink RX7 12 "PeirceDesk" "algebra" "LPeirceDesk$Algebra;" ∈ wsX7_rule := by decide +kernel
theorem nX7_rule_0 : ∀ w ∈ wsX00, w ∈ wsX7_rule := fun w h => List.mem_cons_of_mem _ (List.mem_append_left _ (List.mem_append_right _ h))
theorem nX7_rule_6 : ∀ w ∈ wsX60, w ∈ wsX7_rule := fun w h => List.mem_cons_of_mem _ (List.mem_append_right _ h)
theorem nX7_rule_7 : ∀ w ∈ wsX70, w ∈ wsX7_rule := fun w h => List.mem_cons_of_mem _ (List.mem_append_left _ (List.mem_append_left _ (List.mem_append_right _ h)))
theorem fX7_partSize_12 : Cond.fieldLink RX7 12 "PeirceDesk" "algebra" "LPeirceDesk$Algebra;" ∈ wsX7_partSize := by decide +kernel
theorem nX7_partSize_0 : ∀ w ∈ wsX00, w ∈ wsX7_partSize := fun w h => List.mem_cons_of_mem _ (List.mem_append_left _ (List.mem_append_left _ (List.mem_append_right _ h)))
theorem nX7_partSize_6 : ∀ w ∈ wsX60, w ∈ wsX7_partSize := fun w h => List.mem_cons_of_mem _ (List.mem_append_left _ (List.mem_append_right _ h))
theorem nX7_partSize_7 : ∀ w ∈ wsX70, w ∈ wsX7_partSize := fun w h => List.mem_cons_of_mem _ (List.mem_append_left _ (List.mem_append_left _ (List.mem_append_left _ (List.mem_append_right _ h))))
theorem fX7_howMany_12 : Cond.fieldLink RX7 12 "PeirceDesk" "algebra" "LPeirceDesk$Algebra;" ∈ wsX7_howMany := by decide +kernel
theorem nX7_howMany_0 : ∀ w ∈ wsX00, w ∈ wsX7_howMany := fun w h => List.mem_cons_of_mem _ (List.mem_append_left _ (List.mem_append_left _ (List.mem_append_right _ h)))
theorem nX7_howMany_6 : ∀ w ∈ wsX60, w ∈ wsX7_howMany := fun w h => List.mem_cons_of_mem _ (List.mem_append_left _ (List.mem_append_right _ h))
theorem nX7_howMany_7 : ∀ w ∈ wsX70, w ∈ wsX7_howMany := fun w h => List.mem_cons_of_mem _ (List.mem_append_left _ (List.mem_append_left _ (List.mem_append_left _ (List.mem_append_right _ h))))
theorem fX7_holds_12 : Cond.fieldLink RX7 12 "PeirceDesk" "algebra" "LPeirceDesk$Algebra;" ∈ wsX7_holds := by decide +kernel
theorem fX7_holds_19 : Cond.fieldLink RX7 19 "PeirceDesk" "pad" "LPeirceDesk$Pad;" ∈ wsX7_holds := by decide +kernel
theorem fX7_holds_26 : Cond.fieldLink RX7 26 "PeirceDesk" "reckoner" "LPeirceDesk$Reckoner;" ∈ wsX7_holds := by decide +kernel
theorem nX7_holds_4 : ∀ w ∈ wsX40, w ∈ wsX7_holds := fun w h => List.mem_cons_of_mem _ (List.mem_append_left _ (List.mem_append_left _ (List.mem_append_left _ (List.mem_append_left _ (List.mem_append_left _ (List.mem_append_right _ h))))))
theorem nX7_holds_7 : ∀ w ∈ wsX70, w ∈ wsX7_holds := fun w h => List.mem_cons_of_mem _ (List.mem_append_left _ (List.mem_append_left _ (List.mem_append_left _ (List.mem_append_left _ (List.mem_append_left _ (List.mem_append_left _ (List.mem_append_right _ h)))))))
theorem fX7_stops_12 : Cond.fieldLink RX7 12 "PeirceDesk" "algebra" "LPeirceDesk$Algebra;" ∈ wsX7_stops := by decide +kernel
theorem fX7_stops_19 : Cond.fieldLink RX7 19 "PeirceDesk" "pad" "LPeirceDesk$Pad;" ∈ wsX7_stops := by decide +kernel
theorem fX7_stops_26 : Cond.fieldLink RX7 26 "PeirceDesk" "reckoner" "LPeirceDesk$Reckoner;" ∈ wsX7_stops := by decide +kernel
theorem nX7_stops_7 : ∀ w ∈ wsX70, w ∈ wsX7_stops := fun w h => List.mem_cons_of_mem _ (List.mem_append_left _ (List.mem_append_left _ (List.mem_append_left _ (List.mem_append_left _ (List.mem_append_left _ (List.mem_append_left _ (List.mem_append_right _ h)))))))
theorem fX7_put_19 : Cond.fieldLink RX7 19 "PeirceDesk" "pad" "LPeirceDesk$Pad;" ∈ wsX7_put := by decide +kernel
theorem nX7_put_3 : ∀ w ∈ wsX30, w ∈ wsX7_put := fun w h => List.mem_cons_of_mem _ (List.mem_append_right _ h)
theorem nX7_put_7 : ∀ w ∈ wsX70, w ∈ wsX7_put := fun w h => List.mem_cons_of_mem _ (List.mem_append_left _ (List.mem_append_right _ h))
theorem fX7_wipe_19 : Cond.fieldLink RX7 19 "PeirceDesk" "pad" "LPeirceDesk$Pad;" ∈ wsX7_wipe := by decide +kernel
theorem nX7_wipe_3 : ∀ w ∈ wsX30, w ∈ wsX7_wipe := fun w h => List.mem_cons_of_mem _ (List.mem_append_right _ h)
theorem nX7_wipe_7 : ∀ w ∈ wsX70, w ∈ wsX7_wipe := fun w h => List.mem_cons_of_mem _ (List.mem_append_left _ (List.mem_append_right _ h))
theorem fX7_fault_19 : Cond.fieldLink RX7 19 "PeirceDesk" "pad" "LPeirceDesk$Pad;" ∈ wsX7_fault := by decide +kernel
theorem nX7_fault_7 : ∀ w ∈ wsX70, w ∈ wsX7_fault := fun w h => List.mem_cons_of_mem _ (List.mem_append_left _ (List.mem_append_right _ h))
theorem fX7_undo_12 : Cond.fieldLink RX7 12 "PeirceDesk" "algebra" "LPeirceDesk$Algebra;" ∈ wsX7_undo := by decide +kernel
theorem fX7_undo_33 : Cond.fieldLink RX7 33 "PeirceDesk" "history" "LPeirceDesk$History;" ∈ wsX7_undo := by decide +kernel
theorem nX7_undo_0 : ∀ w ∈ wsX00, w ∈ wsX7_undo := fun w h => List.mem_cons_of_mem _ (List.mem_append_left _ (List.mem_append_right _ h))
theorem nX7_undo_2 : ∀ w ∈ wsX20, w ∈ wsX7_undo := fun w h => List.mem_cons_of_mem _ (List.mem_append_left _ (List.mem_append_left _ (List.mem_append_right _ h)))
theorem nX7_undo_7 : ∀ w ∈ wsX70, w ∈ wsX7_undo := fun w h => List.mem_cons_of_mem _ (List.mem_append_left _ (List.mem_append_left _ (List.mem_append_left _ (List.mem_append_right _ h))))
theorem fX7_isPlace_12 : Cond.fieldLink RX7 12 "PeirceDesk" "algebra" "LPeirceDesk$Algebra;" ∈ wsX7_isPlace := by decide +kernel
theorem nX7_isPlace_0 : ∀ w ∈ wsX00, w ∈ wsX7_isPlace := fun w h => List.mem_cons_of_mem _ (List.mem_append_left _ (List.mem_append_right _ h))
theorem nX7_isPlace_6 : ∀ w ∈ wsX60, w ∈ wsX7_isPlace := fun w h => List.mem_cons_of_mem _ (List.mem_append_right _ h)
theorem nX7_isPlace_7 : ∀ w ∈ wsX70, w ∈ wsX7_isPlace := fun w h => List.mem_cons_of_mem _ (List.mem_append_left _ (List.mem_append_left _ (List.mem_append_right _ h)))
theorem fX7_registersNotZero_12 : Cond.fieldLink RX7 12 "PeirceDesk" "algebra" "LPeirceDesk$Algebra;" ∈ wsX7_registersNotZero := by decide +kernel
theorem nX7_registersNotZero_0 : ∀ w ∈ wsX00, w ∈ wsX7_registersNotZero := fun w h => List.mem_cons_of_mem _ (List.mem_append_left _ (List.mem_append_right _ h))
theorem nX7_registersNotZero_6 : ∀ w ∈ wsX60, w ∈ wsX7_registersNotZero := fun w h => List.mem_cons_of_mem _ (List.mem_append_right _ h)
theorem nX7_registersNotZero_7 : ∀ w ∈ wsX70, w ∈ wsX7_registersNotZero := fun w h => List.mem_cons_of_mem _ (List.mem_append_left _ (List.mem_append_left _ (List.mem_append_right _ h)))
theorem fX7_registersOwnSquares_12 : Cond.fieldLink RX7 12 "PeirceDesk" "algebra" "LPeirceDesk$Algebra;" ∈ wsX7_registersOwnSquares := by decide +kernel
theorem nX7_registersOwnSquares_0 : ∀ w ∈ wsX00, w ∈ wsX7_registersOwnSquares := fun w h => List.mem_cons_of_mem _ (List.mem_append_left _ (List.mem_append_right _ h))
theorem nX7_registersOwnSquares_6 : ∀ w ∈ wsX60, w ∈ wsX7_registersOwnSquares := fun w h => List.mem_cons_of_mem _ (List.mem_append_right _ h)
theorem nX7_registersOwnSquares_7 : ∀ w ∈ wsX70, w ∈ wsX7_registersOwnSquares := fun w h => List.mem_cons_of_mem _ (List.mem_append_left _ (List.mem_append_left _ (List.mem_append_right _ h)))
theorem fX0_init_12 : Cond.fieldLink RX0 12 "PeirceDesk$Algebra" "now" "LPeirceDesk$State;" ∈ wsX0_init := by decide +kernel
theorem fX0_init_21 : Cond.fieldLink RX0 21 "PeirceDesk$Algebra" "rows" "LPeirceDesk$Rows;" ∈ wsX0_init := by decide +kernel
theorem fX0_init_27 : Cond.fieldLink RX0 27 "PeirceDesk$Algebra" "parts" "[[I" ∈ wsX0_init := by decide +kernel
theorem fX0_init_30 : Cond.fieldLink RX0 30 "PeirceDesk$Algebra" "power" "[I" ∈ wsX0_init := by decide +kernel
theorem fX0_init_34 : Cond.fieldLink RX0 34 "PeirceDesk$Algebra" "oneSide" "[I" ∈ wsX0_init := by decide +kernel
theorem fX0_init_37 : Cond.fieldLink RX0 37 "PeirceDesk$Algebra" "left" "[I" ∈ wsX0_init := by decide +kernel
theorem fX0_init_40 : Cond.fieldLink RX0 40 "PeirceDesk$Algebra" "right" "[I" ∈ wsX0_init := by decide +kernel
theorem fX0_init_43 : Cond.fieldLink RX0 43 "PeirceDesk$Algebra" "square" "[I" ∈ wsX0_init := by decide +kernel
theorem fX0_init_46 : Cond.fieldLink RX0 46 "PeirceDesk$Algebra" "otherSide" "[I" ∈ wsX0_init := by decide +kernel
theorem fX0_init_49 : Cond.fieldLink RX0 49 "PeirceDesk$Algebra" "candidate" "[I" ∈ wsX0_init := by decide +kernel
theorem fX0_init_52 : Cond.fieldLink RX0 52 "PeirceDesk$Algebra" "powers" "[[I" ∈ wsX0_init := by decide +kernel
theorem nX0_init_0 : ∀ w ∈ wsX00, w ∈ wsX0_init := fun w h => List.mem_cons_of_mem _ (List.mem_append_left _ (List.mem_append_right _ h))
theorem fX0_unit_12 : Cond.fieldLink RX0 12 "PeirceDesk$Algebra" "now" "LPeirceDesk$State;" ∈ wsX0_unit := by decide +kernel
theorem nX0_unit_0 : ∀ w ∈ wsX00, w ∈ wsX0_unit := fun w h => List.mem_cons_of_mem _ (List.mem_append_left _ (List.mem_append_right _ h))
theorem nX0_unit_6 : ∀ w ∈ wsX60, w ∈ wsX0_unit := fun w h => List.mem_cons_of_mem _ (List.mem_append_right _ h)
theorem fX0_multiply_12 : Cond.fieldLink RX0 12 "PeirceDesk$Algebra" "now" "LPeirceDesk$State;" ∈ wsX0_multiply := by decide +kernel
theorem nX0_multiply_0 : ∀ w ∈ wsX00, w ∈ wsX0_multiply := fun w h => List.mem_cons_of_mem _ (List.mem_append_left _ (List.mem_append_right _ h))
theorem nX0_multiply_6 : ∀ w ∈ wsX60, w ∈ wsX0_multiply := fun w h => List.mem_cons_of_mem _ (List.mem_append_right _ h)
theorem fX0_writeSymmetric_12 : Cond.fieldLink RX0 12 "PeirceDesk$Algebra" "now" "LPeirceDesk$State;" ∈ wsX0_writeSymmetric := by decide +kernel
theorem nX0_writeSymmetric_0 : ∀ w ∈ wsX00, w ∈ wsX0_writeSymmetric := fun w h => List.mem_cons_of_mem _ (List.mem_append_left _ (List.mem_append_right _ h))
theorem nX0_writeSymmetric_6 : ∀ w ∈ wsX60, w ∈ wsX0_writeSymmetric := fun w h => List.mem_cons_of_mem _ (List.mem_append_right _ h)
theorem fX0_product_12 : Cond.fieldLink RX0 12 "PeirceDesk$Algebra" "now" "LPeirceDesk$State;" ∈ wsX0_product := by decide +kernel
theorem fX0_product_37 : Cond.fieldLink RX0 37 "PeirceDesk$Algebra" "left" "[I" ∈ wsX0_product := by decide +kernel
theorem fX0_product_40 : Cond.fieldLink RX0 40 "PeirceDesk$Algebra" "right" "[I" ∈ wsX0_product := by decide +kernel
theorem nX0_product_0 : ∀ w ∈ wsX00, w ∈ wsX0_product := fun w h => List.mem_cons_of_mem _ (List.mem_append_left _ (List.mem_append_right _ h))
theorem nX0_product_6 : ∀ w ∈ wsX60, w ∈ wsX0_product := fun w h => List.mem_cons_of_mem _ (List.mem_append_right _ h)
theorem fX0_triple_12 : Cond.fieldLink RX0 12 "PeirceDesk$Algebra" "now" "LPeirceDesk$State;" ∈ wsX0_triple := by decide +kernel
theorem fX0_triple_37 : Cond.fieldLink RX0 37 "PeirceDesk$Algebra" "left" "[I" ∈ wsX0_triple := by decide +kernel
theorem fX0_triple_40 : Cond.fieldLink RX0 40 "PeirceDesk$Algebra" "right" "[I" ∈ wsX0_triple := by decide +kernel
theorem nX0_triple_0 : ∀ w ∈ wsX00, w ∈ wsX0_triple := fun w h => List.mem_cons_of_mem _ (List.mem_append_left _ (List.mem_append_right _ h))
theorem nX0_triple_6 : ∀ w ∈ wsX60, w ∈ wsX0_triple := fun w h => List.mem_cons_of_mem _ (List.mem_append_right _ h)
theorem fX0_inverse_12 : Cond.fieldLink RX0 12 "PeirceDesk$Algebra" "now" "LPeirceDesk$State;" ∈ wsX0_inverse := by decide +kernel
theorem fX0_inverse_21 : Cond.fieldLink RX0 21 "PeirceDesk$Algebra" "rows" "LPeirceDesk$Rows;" ∈ wsX0_inverse := by decide +kernel
theorem fX0_inverse_37 : Cond.fieldLink RX0 37 "PeirceDesk$Algebra" "left" "[I" ∈ wsX0_inverse := by decide +kernel
theorem nX0_inverse_0 : ∀ w ∈ wsX00, w ∈ wsX0_inverse := fun w h => List.mem_cons_of_mem _ (List.mem_append_left _ (List.mem_append_left _ (List.mem_append_right _ h)))
theorem nX0_inverse_6 : ∀ w ∈ wsX60, w ∈ wsX0_inverse := fun w h => List.mem_cons_of_mem _ (List.mem_append_left _ (List.mem_append_right _ h))
theorem fX0_readInverse_21 : Cond.fieldLink RX0 21 "PeirceDesk$Algebra" "rows" "LPeirceDesk$Rows;" ∈ wsX0_readInverse := by decide +kernel
theorem nX0_readInverse_0 : ∀ w ∈ wsX00, w ∈ wsX0_readInverse := fun w h => List.mem_cons_of_mem _ (List.mem_append_left _ (List.mem_append_right _ h))
theorem nX0_readInverse_5 : ∀ w ∈ wsX50, w ∈ wsX0_readInverse := fun w h => List.mem_cons_of_mem _ (List.mem_append_right _ h)
theorem fX0_trace_12 : Cond.fieldLink RX0 12 "PeirceDesk$Algebra" "now" "LPeirceDesk$State;" ∈ wsX0_trace := by decide +kernel
theorem nX0_trace_0 : ∀ w ∈ wsX00, w ∈ wsX0_trace := fun w h => List.mem_cons_of_mem _ (List.mem_append_left _ (List.mem_append_right _ h))
theorem nX0_trace_6 : ∀ w ∈ wsX60, w ∈ wsX0_trace := fun w h => List.mem_cons_of_mem _ (List.mem_append_right _ h)
theorem fX0_rank_12 : Cond.fieldLink RX0 12 "PeirceDesk$Algebra" "now" "LPeirceDesk$State;" ∈ wsX0_rank := by decide +kernel
theorem fX0_rank_21 : Cond.fieldLink RX0 21 "PeirceDesk$Algebra" "rows" "LPeirceDesk$Rows;" ∈ wsX0_rank := by decide +kernel
theorem nX0_rank_0 : ∀ w ∈ wsX00, w ∈ wsX0_rank := fun w h => List.mem_cons_of_mem _ (List.mem_append_left _ (List.mem_append_left _ (List.mem_append_right _ h)))
theorem fX0_determinant_12 : Cond.fieldLink RX0 12 "PeirceDesk$Algebra" "now" "LPeirceDesk$State;" ∈ wsX0_determinant := by decide +kernel
theorem fX0_determinant_21 : Cond.fieldLink RX0 21 "PeirceDesk$Algebra" "rows" "LPeirceDesk$Rows;" ∈ wsX0_determinant := by decide +kernel
theorem nX0_determinant_0 : ∀ w ∈ wsX00, w ∈ wsX0_determinant := fun w h => List.mem_cons_of_mem _ (List.mem_append_left _ (List.mem_append_left _ (List.mem_append_right _ h)))
theorem nX0_determinant_5 : ∀ w ∈ wsX50, w ∈ wsX0_determinant := fun w h => List.mem_cons_of_mem _ (List.mem_append_right _ h)
theorem nX0_determinant_6 : ∀ w ∈ wsX60, w ∈ wsX0_determinant := fun w h => List.mem_cons_of_mem _ (List.mem_append_left _ (List.mem_append_right _ h))
theorem fX0_takeIdentityAsBase_12 : Cond.fieldLink RX0 12 "PeirceDesk$Algebra" "now" "LPeirceDesk$State;" ∈ wsX0_takeIdentityAsBase := by decide +kernel
theorem nX0_takeIdentityAsBase_0 : ∀ w ∈ wsX00, w ∈ wsX0_takeIdentityAsBase := fun w h => List.mem_cons_of_mem _ (List.mem_append_left _ (List.mem_append_right _ h))
theorem nX0_takeIdentityAsBase_6 : ∀ w ∈ wsX60, w ∈ wsX0_takeIdentityAsBase := fun w h => List.mem_cons_of_mem _ (List.mem_append_right _ h)
theorem fX0_takeAsBase_12 : Cond.fieldLink RX0 12 "PeirceDesk$Algebra" "now" "LPeirceDesk$State;" ∈ wsX0_takeAsBase := by decide +kernel
theorem nX0_takeAsBase_0 : ∀ w ∈ wsX00, w ∈ wsX0_takeAsBase := fun w h => List.mem_cons_of_mem _ (List.mem_append_left _ (List.mem_append_left _ (List.mem_append_right _ h)))
theorem nX0_takeAsBase_6 : ∀ w ∈ wsX60, w ∈ wsX0_takeAsBase := fun w h => List.mem_cons_of_mem _ (List.mem_append_left _ (List.mem_append_right _ h))
theorem fX0_isOwnSquare_43 : Cond.fieldLink RX0 43 "PeirceDesk$Algebra" "square" "[I" ∈ wsX0_isOwnSquare := by decide +kernel
theorem nX0_isOwnSquare_0 : ∀ w ∈ wsX00, w ∈ wsX0_isOwnSquare := fun w h => List.mem_cons_of_mem _ (List.mem_append_left _ (List.mem_append_right _ h))
theorem fX0_findParts_12 : Cond.fieldLink RX0 12 "PeirceDesk$Algebra" "now" "LPeirceDesk$State;" ∈ wsX0_findParts := by decide +kernel
theorem fX0_findParts_27 : Cond.fieldLink RX0 27 "PeirceDesk$Algebra" "parts" "[[I" ∈ wsX0_findParts := by decide +kernel
theorem nX0_findParts_0 : ∀ w ∈ wsX00, w ∈ wsX0_findParts := fun w h => List.mem_cons_of_mem _ (List.mem_append_left _ (List.mem_append_right _ h))
theorem nX0_findParts_6 : ∀ w ∈ wsX60, w ∈ wsX0_findParts := fun w h => List.mem_cons_of_mem _ (List.mem_append_right _ h)
theorem fX0_raise_30 : Cond.fieldLink RX0 30 "PeirceDesk$Algebra" "power" "[I" ∈ wsX0_raise := by decide +kernel
theorem fX0_raise_43 : Cond.fieldLink RX0 43 "PeirceDesk$Algebra" "square" "[I" ∈ wsX0_raise := by decide +kernel
theorem nX0_raise_0 : ∀ w ∈ wsX00, w ∈ wsX0_raise := fun w h => List.mem_cons_of_mem _ (List.mem_append_left _ (List.mem_append_right _ h))
theorem fX0_order_30 : Cond.fieldLink RX0 30 "PeirceDesk$Algebra" "power" "[I" ∈ wsX0_order := by decide +kernel
theorem nX0_order_0 : ∀ w ∈ wsX00, w ∈ wsX0_order := fun w h => List.mem_cons_of_mem _ (List.mem_append_left _ (List.mem_append_left _ (List.mem_append_right _ h)))
theorem fX0_leastZeroPower_30 : Cond.fieldLink RX0 30 "PeirceDesk$Algebra" "power" "[I" ∈ wsX0_leastZeroPower := by decide +kernel
theorem nX0_leastZeroPower_0 : ∀ w ∈ wsX00, w ∈ wsX0_leastZeroPower := fun w h => List.mem_cons_of_mem _ (List.mem_append_left _ (List.mem_append_right _ h))
theorem fX0_degree_12 : Cond.fieldLink RX0 12 "PeirceDesk$Algebra" "now" "LPeirceDesk$State;" ∈ wsX0_degree := by decide +kernel
theorem fX0_degree_21 : Cond.fieldLink RX0 21 "PeirceDesk$Algebra" "rows" "LPeirceDesk$Rows;" ∈ wsX0_degree := by decide +kernel
theorem fX0_degree_52 : Cond.fieldLink RX0 52 "PeirceDesk$Algebra" "powers" "[[I" ∈ wsX0_degree := by decide +kernel
theorem nX0_degree_0 : ∀ w ∈ wsX00, w ∈ wsX0_degree := fun w h => List.mem_cons_of_mem _ (List.mem_append_left _ (List.mem_append_left _ (List.mem_append_right _ h)))
theorem nX0_degree_6 : ∀ w ∈ wsX60, w ∈ wsX0_degree := fun w h => List.mem_cons_of_mem _ (List.mem_append_left _ (List.mem_append_right _ h))
theorem fX0_tryRule_34 : Cond.fieldLink RX0 34 "PeirceDesk$Algebra" "oneSide" "[I" ∈ wsX0_tryRule := by decide +kernel
theorem fX0_tryRule_46 : Cond.fieldLink RX0 46 "PeirceDesk$Algebra" "otherSide" "[I" ∈ wsX0_tryRule := by decide +kernel
theorem nX0_tryRule_0 : ∀ w ∈ wsX00, w ∈ wsX0_tryRule := fun w h => List.mem_cons_of_mem _ (List.mem_append_left _ (List.mem_append_right _ h))
theorem fX0_countKind_12 : Cond.fieldLink RX0 12 "PeirceDesk$Algebra" "now" "LPeirceDesk$State;" ∈ wsX0_countKind := by decide +kernel
theorem fX0_countKind_49 : Cond.fieldLink RX0 49 "PeirceDesk$Algebra" "candidate" "[I" ∈ wsX0_countKind := by decide +kernel
theorem nX0_countKind_0 : ∀ w ∈ wsX00, w ∈ wsX0_countKind := fun w h => List.mem_cons_of_mem _ (List.mem_append_left _ (List.mem_append_left _ (List.mem_append_right _ h)))
theorem nX0_countKind_6 : ∀ w ∈ wsX60, w ∈ wsX0_countKind := fun w h => List.mem_cons_of_mem _ (List.mem_append_left _ (List.mem_append_right _ h))
theorem fX0_isOfKind_43 : Cond.fieldLink RX0 43 "PeirceDesk$Algebra" "square" "[I" ∈ wsX0_isOfKind := by decide +kernel
theorem fX0_isOfKind_49 : Cond.fieldLink RX0 49 "PeirceDesk$Algebra" "candidate" "[I" ∈ wsX0_isOfKind := by decide +kernel
theorem nX0_isOfKind_0 : ∀ w ∈ wsX00, w ∈ wsX0_isOfKind := fun w h => List.mem_cons_of_mem _ (List.mem_append_left _ (List.mem_append_left _ (List.mem_append_right _ h)))
theorem fX1_init_9 : Cond.fieldLink RX1 9 "PeirceDesk$Frame" "sum" "[I" ∈ wsX1_init := by decide +kernel
theorem fX1_init_15 : Cond.fieldLink RX1 15 "PeirceDesk$Frame" "first" "[I" ∈ wsX1_init := by decide +kernel
theorem fX1_init_18 : Cond.fieldLink RX1 18 "PeirceDesk$Frame" "second" "[I" ∈ wsX1_init := by decide +kernel
theorem nX1_init_1 : ∀ w ∈ wsX10, w ∈ wsX1_init := fun w h => List.mem_cons_of_mem _ (List.mem_append_right _ h)
theorem fX1_open_21 : Cond.fieldLink RX1 21 "PeirceDesk$Frame" "kind" "C" ∈ wsX1_open := by decide +kernel
theorem fX1_open_25 : Cond.fieldLink RX1 25 "PeirceDesk$Frame" "place" "I" ∈ wsX1_open := by decide +kernel
theorem fX1_open_29 : Cond.fieldLink RX1 29 "PeirceDesk$Frame" "arguments" "I" ∈ wsX1_open := by decide +kernel
theorem nX1_open_1 : ∀ w ∈ wsX10, w ∈ wsX1_open := fun w h => List.mem_cons_of_mem _ (List.mem_append_right _ h)
theorem fX1_startSum_9 : Cond.fieldLink RX1 9 "PeirceDesk$Frame" "sum" "[I" ∈ wsX1_startSum := by decide +kernel
theorem fX1_startSum_35 : Cond.fieldLink RX1 35 "PeirceDesk$Frame" "sign" "I" ∈ wsX1_startSum := by decide +kernel
theorem fX1_startSum_38 : Cond.fieldLink RX1 38 "PeirceDesk$Frame" "times" "I" ∈ wsX1_startSum := by decide +kernel
theorem nX1_startSum_1 : ∀ w ∈ wsX10, w ∈ wsX1_startSum := fun w h => List.mem_cons_of_mem _ (List.mem_append_right _ h)
theorem fX1_add_9 : Cond.fieldLink RX1 9 "PeirceDesk$Frame" "sum" "[I" ∈ wsX1_add := by decide +kernel
theorem fX1_add_35 : Cond.fieldLink RX1 35 "PeirceDesk$Frame" "sign" "I" ∈ wsX1_add := by decide +kernel
theorem fX1_add_38 : Cond.fieldLink RX1 38 "PeirceDesk$Frame" "times" "I" ∈ wsX1_add := by decide +kernel
theorem nX1_add_1 : ∀ w ∈ wsX10, w ∈ wsX1_add := fun w h => List.mem_cons_of_mem _ (List.mem_append_right _ h)
theorem fX1_keepArgument_9 : Cond.fieldLink RX1 9 "PeirceDesk$Frame" "sum" "[I" ∈ wsX1_keepArgument := by decide +kernel
theorem fX1_keepArgument_15 : Cond.fieldLink RX1 15 "PeirceDesk$Frame" "first" "[I" ∈ wsX1_keepArgument := by decide +kernel
theorem fX1_keepArgument_18 : Cond.fieldLink RX1 18 "PeirceDesk$Frame" "second" "[I" ∈ wsX1_keepArgument := by decide +kernel
theorem fX1_keepArgument_29 : Cond.fieldLink RX1 29 "PeirceDesk$Frame" "arguments" "I" ∈ wsX1_keepArgument := by decide +kernel
theorem nX1_keepArgument_1 : ∀ w ∈ wsX10, w ∈ wsX1_keepArgument := fun w h => List.mem_cons_of_mem _ (List.mem_append_right _ h)
theorem fX1_finish_9 : Cond.fieldLink RX1 9 "PeirceDesk$Frame" "sum" "[I" ∈ wsX1_finish := by decide +kernel
theorem fX1_finish_15 : Cond.fieldLink RX1 15 "PeirceDesk$Frame" "first" "[I" ∈ wsX1_finish := by decide +kernel
theorem fX1_finish_18 : Cond.fieldLink RX1 18 "PeirceDesk$Frame" "second" "[I" ∈ wsX1_finish := by decide +kernel
theorem fX1_finish_21 : Cond.fieldLink RX1 21 "PeirceDesk$Frame" "kind" "C" ∈ wsX1_finish := by decide +kernel
theorem nX1_finish_1 : ∀ w ∈ wsX10, w ∈ wsX1_finish := fun w h => List.mem_cons_of_mem _ (List.mem_append_left _ (List.mem_append_left _ (List.mem_append_left _ (List.mem_append_right _ h))))
theorem fX2_init_11 : Cond.fieldLink RX2 11 "PeirceDesk$History" "states" "[LPeirceDesk$State;" ∈ wsX2_init := by decide +kernel
theorem nX2_init_2 : ∀ w ∈ wsX20, w ∈ wsX2_init := fun w h => List.mem_cons_of_mem _ (List.mem_append_left _ (List.mem_append_right _ h))
theorem fX2_remember_11 : Cond.fieldLink RX2 11 "PeirceDesk$History" "states" "[LPeirceDesk$State;" ∈ wsX2_remember := by decide +kernel
theorem fX2_remember_18 : Cond.fieldLink RX2 18 "PeirceDesk$History" "next" "I" ∈ wsX2_remember := by decide +kernel
theorem fX2_remember_26 : Cond.fieldLink RX2 26 "PeirceDesk$History" "length" "I" ∈ wsX2_remember := by decide +kernel
theorem nX2_remember_2 : ∀ w ∈ wsX20, w ∈ wsX2_remember := fun w h => List.mem_cons_of_mem _ (List.mem_append_left _ (List.mem_append_right _ h))
theorem fX2_takeBack_11 : Cond.fieldLink RX2 11 "PeirceDesk$History" "states" "[LPeirceDesk$State;" ∈ wsX2_takeBack := by decide +kernel
theorem fX2_takeBack_18 : Cond.fieldLink RX2 18 "PeirceDesk$History" "next" "I" ∈ wsX2_takeBack := by decide +kernel
theorem fX2_takeBack_26 : Cond.fieldLink RX2 26 "PeirceDesk$History" "length" "I" ∈ wsX2_takeBack := by decide +kernel
theorem nX2_takeBack_2 : ∀ w ∈ wsX20, w ∈ wsX2_takeBack := fun w h => List.mem_cons_of_mem _ (List.mem_append_left _ (List.mem_append_right _ h))
theorem fX3_init_9 : Cond.fieldLink RX3 9 "PeirceDesk$Pad" "signs" "[C" ∈ wsX3_init := by decide +kernel
theorem fX3_init_15 : Cond.fieldLink RX3 15 "PeirceDesk$Pad" "commas" "[I" ∈ wsX3_init := by decide +kernel
theorem nX3_init_3 : ∀ w ∈ wsX30, w ∈ wsX3_init := fun w h => List.mem_cons_of_mem _ (List.mem_append_right _ h)
theorem fX3_append_9 : Cond.fieldLink RX3 9 "PeirceDesk$Pad" "signs" "[C" ∈ wsX3_append := by decide +kernel
theorem fX3_append_21 : Cond.fieldLink RX3 21 "PeirceDesk$Pad" "length" "I" ∈ wsX3_append := by decide +kernel
theorem nX3_append_3 : ∀ w ∈ wsX30, w ∈ wsX3_append := fun w h => List.mem_cons_of_mem _ (List.mem_append_right _ h)
theorem fX3_target_9 : Cond.fieldLink RX3 9 "PeirceDesk$Pad" "signs" "[C" ∈ wsX3_target := by decide +kernel
theorem fX3_target_21 : Cond.fieldLink RX3 21 "PeirceDesk$Pad" "length" "I" ∈ wsX3_target := by decide +kernel
theorem nX3_target_3 : ∀ w ∈ wsX30, w ∈ wsX3_target := fun w h => List.mem_cons_of_mem _ (List.mem_append_right _ h)
theorem fX3_findFault_9 : Cond.fieldLink RX3 9 "PeirceDesk$Pad" "signs" "[C" ∈ wsX3_findFault := by decide +kernel
theorem fX3_findFault_21 : Cond.fieldLink RX3 21 "PeirceDesk$Pad" "length" "I" ∈ wsX3_findFault := by decide +kernel
theorem fX3_findFault_29 : Cond.fieldLink RX3 29 "PeirceDesk$Pad" "open" "I" ∈ wsX3_findFault := by decide +kernel
theorem fX3_findFault_32 : Cond.fieldLink RX3 32 "PeirceDesk$Pad" "nextCommas" "I" ∈ wsX3_findFault := by decide +kernel
theorem fX3_findFault_35 : Cond.fieldLink RX3 35 "PeirceDesk$Pad" "awaited" "I" ∈ wsX3_findFault := by decide +kernel
theorem fX3_findFault_38 : Cond.fieldLink RX3 38 "PeirceDesk$Pad" "divided" "Z" ∈ wsX3_findFault := by decide +kernel
theorem nX3_findFault_3 : ∀ w ∈ wsX30, w ∈ wsX3_findFault := fun w h => List.mem_cons_of_mem _ (List.mem_append_right _ h)
theorem fX3_takes_29 : Cond.fieldLink RX3 29 "PeirceDesk$Pad" "open" "I" ∈ wsX3_takes := by decide +kernel
theorem fX3_takes_35 : Cond.fieldLink RX3 35 "PeirceDesk$Pad" "awaited" "I" ∈ wsX3_takes := by decide +kernel
theorem nX3_takes_3 : ∀ w ∈ wsX30, w ∈ wsX3_takes := fun w h => List.mem_cons_of_mem _ (List.mem_append_right _ h)
theorem fX3_takesDigit_35 : Cond.fieldLink RX3 35 "PeirceDesk$Pad" "awaited" "I" ∈ wsX3_takesDigit := by decide +kernel
theorem nX3_takesDigit_3 : ∀ w ∈ wsX30, w ∈ wsX3_takesDigit := fun w h => List.mem_cons_of_mem _ (List.mem_append_right _ h)
theorem fX3_takesFactor_32 : Cond.fieldLink RX3 32 "PeirceDesk$Pad" "nextCommas" "I" ∈ wsX3_takesFactor := by decide +kernel
theorem fX3_takesFactor_35 : Cond.fieldLink RX3 35 "PeirceDesk$Pad" "awaited" "I" ∈ wsX3_takesFactor := by decide +kernel
theorem nX3_takesFactor_3 : ∀ w ∈ wsX30, w ∈ wsX3_takesFactor := fun w h => List.mem_cons_of_mem _ (List.mem_append_right _ h)
theorem fX3_takesBracket_15 : Cond.fieldLink RX3 15 "PeirceDesk$Pad" "commas" "[I" ∈ wsX3_takesBracket := by decide +kernel
theorem fX3_takesBracket_29 : Cond.fieldLink RX3 29 "PeirceDesk$Pad" "open" "I" ∈ wsX3_takesBracket := by decide +kernel
theorem fX3_takesBracket_32 : Cond.fieldLink RX3 32 "PeirceDesk$Pad" "nextCommas" "I" ∈ wsX3_takesBracket := by decide +kernel
theorem fX3_takesBracket_35 : Cond.fieldLink RX3 35 "PeirceDesk$Pad" "awaited" "I" ∈ wsX3_takesBracket := by decide +kernel
theorem nX3_takesBracket_3 : ∀ w ∈ wsX30, w ∈ wsX3_takesBracket := fun w h => List.mem_cons_of_mem _ (List.mem_append_right _ h)
theorem fX3_takesInside_15 : Cond.fieldLink RX3 15 "PeirceDesk$Pad" "commas" "[I" ∈ wsX3_takesInside := by decide +kernel
theorem fX3_takesInside_29 : Cond.fieldLink RX3 29 "PeirceDesk$Pad" "open" "I" ∈ wsX3_takesInside := by decide +kernel
theorem fX3_takesInside_35 : Cond.fieldLink RX3 35 "PeirceDesk$Pad" "awaited" "I" ∈ wsX3_takesInside := by decide +kernel
theorem nX3_takesInside_3 : ∀ w ∈ wsX30, w ∈ wsX3_takesInside := fun w h => List.mem_cons_of_mem _ (List.mem_append_right _ h)
theorem fX3_takesOutside_9 : Cond.fieldLink RX3 9 "PeirceDesk$Pad" "signs" "[C" ∈ wsX3_takesOutside := by decide +kernel
theorem fX3_takesOutside_35 : Cond.fieldLink RX3 35 "PeirceDesk$Pad" "awaited" "I" ∈ wsX3_takesOutside := by decide +kernel
theorem fX3_takesOutside_38 : Cond.fieldLink RX3 38 "PeirceDesk$Pad" "divided" "Z" ∈ wsX3_takesOutside := by decide +kernel
theorem nX3_takesOutside_3 : ∀ w ∈ wsX30, w ∈ wsX3_takesOutside := fun w h => List.mem_cons_of_mem _ (List.mem_append_right _ h)
theorem fX3_takesSign_35 : Cond.fieldLink RX3 35 "PeirceDesk$Pad" "awaited" "I" ∈ wsX3_takesSign := by decide +kernel
theorem nX3_takesSign_3 : ∀ w ∈ wsX30, w ∈ wsX3_takesSign := fun w h => List.mem_cons_of_mem _ (List.mem_append_right _ h)
theorem fX4_init_11 : Cond.fieldLink RX4 11 "PeirceDesk$Reckoner" "frames" "[LPeirceDesk$Frame;" ∈ wsX4_init := by decide +kernel
theorem fX4_init_18 : Cond.fieldLink RX4 18 "PeirceDesk$Reckoner" "leftSide" "[I" ∈ wsX4_init := by decide +kernel
theorem nX4_init_4 : ∀ w ∈ wsX40, w ∈ wsX4_init := fun w h => List.mem_cons_of_mem _ (List.mem_append_left _ (List.mem_append_right _ h))
theorem fX4_result_11 : Cond.fieldLink RX4 11 "PeirceDesk$Reckoner" "frames" "[LPeirceDesk$Frame;" ∈ wsX4_result := by decide +kernel
theorem nX4_result_1 : ∀ w ∈ wsX10, w ∈ wsX4_result := fun w h => List.mem_cons_of_mem _ (List.mem_append_right _ h)
theorem nX4_result_4 : ∀ w ∈ wsX40, w ∈ wsX4_result := fun w h => List.mem_cons_of_mem _ (List.mem_append_left _ (List.mem_append_right _ h))
theorem fX4_carryOut_11 : Cond.fieldLink RX4 11 "PeirceDesk$Reckoner" "frames" "[LPeirceDesk$Frame;" ∈ wsX4_carryOut := by decide +kernel
theorem fX4_carryOut_25 : Cond.fieldLink RX4 25 "PeirceDesk$Reckoner" "open" "I" ∈ wsX4_carryOut := by decide +kernel
theorem nX4_carryOut_0 : ∀ w ∈ wsX00, w ∈ wsX4_carryOut := fun w h => List.mem_cons_of_mem _ (List.mem_append_left _ (List.mem_append_left _ (List.mem_append_right _ h)))
theorem nX4_carryOut_1 : ∀ w ∈ wsX10, w ∈ wsX4_carryOut := fun w h => List.mem_cons_of_mem _ (List.mem_append_left _ (List.mem_append_left _ (List.mem_append_left _ (List.mem_append_right _ h))))
theorem nX4_carryOut_3 : ∀ w ∈ wsX30, w ∈ wsX4_carryOut := fun w h => List.mem_cons_of_mem _ (List.mem_append_left _ (List.mem_append_left _ (List.mem_append_left _ (List.mem_append_left _ (List.mem_append_right _ h)))))
theorem nX4_carryOut_4 : ∀ w ∈ wsX40, w ∈ wsX4_carryOut := fun w h => List.mem_cons_of_mem _ (List.mem_append_left _ (List.mem_append_left _ (List.mem_append_left _ (List.mem_append_left _ (List.mem_append_left _ (List.mem_append_right _ h))))))
theorem nX4_carryOut_6 : ∀ w ∈ wsX60, w ∈ wsX4_carryOut := fun w h => List.mem_cons_of_mem _ (List.mem_append_left _ (List.mem_append_right _ h))
theorem fX4_openBracket_11 : Cond.fieldLink RX4 11 "PeirceDesk$Reckoner" "frames" "[LPeirceDesk$Frame;" ∈ wsX4_openBracket := by decide +kernel
theorem fX4_openBracket_25 : Cond.fieldLink RX4 25 "PeirceDesk$Reckoner" "open" "I" ∈ wsX4_openBracket := by decide +kernel
theorem nX4_openBracket_4 : ∀ w ∈ wsX40, w ∈ wsX4_openBracket := fun w h => List.mem_cons_of_mem _ (List.mem_append_left _ (List.mem_append_right _ h))
theorem fX4_closeBracket_11 : Cond.fieldLink RX4 11 "PeirceDesk$Reckoner" "frames" "[LPeirceDesk$Frame;" ∈ wsX4_closeBracket := by decide +kernel
theorem fX4_closeBracket_25 : Cond.fieldLink RX4 25 "PeirceDesk$Reckoner" "open" "I" ∈ wsX4_closeBracket := by decide +kernel
theorem nX4_closeBracket_1 : ∀ w ∈ wsX10, w ∈ wsX4_closeBracket := fun w h => List.mem_cons_of_mem _ (List.mem_append_right _ h)
theorem nX4_closeBracket_4 : ∀ w ∈ wsX40, w ∈ wsX4_closeBracket := fun w h => List.mem_cons_of_mem _ (List.mem_append_left _ (List.mem_append_right _ h))
theorem fX4_read_18 : Cond.fieldLink RX4 18 "PeirceDesk$Reckoner" "leftSide" "[I" ∈ wsX4_read := by decide +kernel
theorem nX4_read_1 : ∀ w ∈ wsX10, w ∈ wsX4_read := fun w h => List.mem_cons_of_mem _ (List.mem_append_left _ (List.mem_append_right _ h))
theorem nX4_read_4 : ∀ w ∈ wsX40, w ∈ wsX4_read := fun w h => List.mem_cons_of_mem _ (List.mem_append_right _ h)
theorem nX4_read_6 : ∀ w ∈ wsX60, w ∈ wsX4_read := fun w h => List.mem_cons_of_mem _ (List.mem_append_left _ (List.mem_append_left _ (List.mem_append_right _ h)))
theorem fX5_init_11 : Cond.fieldLink RX5 11 "PeirceDesk$Rows" "cells" "[[I" ∈ wsX5_init := by decide +kernel
theorem nX5_init_5 : ∀ w ∈ wsX50, w ∈ wsX5_init := fun w h => List.mem_cons_of_mem _ (List.mem_append_right _ h)
theorem fX5_load_11 : Cond.fieldLink RX5 11 "PeirceDesk$Rows" "cells" "[[I" ∈ wsX5_load := by decide +kernel
theorem fX5_load_22 : Cond.fieldLink RX5 22 "PeirceDesk$Rows" "modulus" "I" ∈ wsX5_load := by decide +kernel
theorem nX5_load_5 : ∀ w ∈ wsX50, w ∈ wsX5_load := fun w h => List.mem_cons_of_mem _ (List.mem_append_right _ h)
theorem nX5_load_6 : ∀ w ∈ wsX60, w ∈ wsX5_load := fun w h => List.mem_cons_of_mem _ (List.mem_append_left _ (List.mem_append_right _ h))
theorem fX5_loadAll_11 : Cond.fieldLink RX5 11 "PeirceDesk$Rows" "cells" "[[I" ∈ wsX5_loadAll := by decide +kernel
theorem fX5_loadAll_22 : Cond.fieldLink RX5 22 "PeirceDesk$Rows" "modulus" "I" ∈ wsX5_loadAll := by decide +kernel
theorem nX5_loadAll_5 : ∀ w ∈ wsX50, w ∈ wsX5_loadAll := fun w h => List.mem_cons_of_mem _ (List.mem_append_right _ h)
theorem fX5_clearRow_11 : Cond.fieldLink RX5 11 "PeirceDesk$Rows" "cells" "[[I" ∈ wsX5_clearRow := by decide +kernel
theorem nX5_clearRow_5 : ∀ w ∈ wsX50, w ∈ wsX5_clearRow := fun w h => List.mem_cons_of_mem _ (List.mem_append_right _ h)
theorem fX5_reduce_11 : Cond.fieldLink RX5 11 "PeirceDesk$Rows" "cells" "[[I" ∈ wsX5_reduce := by decide +kernel
theorem fX5_reduce_34 : Cond.fieldLink RX5 34 "PeirceDesk$Rows" "pivots" "I" ∈ wsX5_reduce := by decide +kernel
theorem nX5_reduce_5 : ∀ w ∈ wsX50, w ∈ wsX5_reduce := fun w h => List.mem_cons_of_mem _ (List.mem_append_right _ h)
theorem fX5_pivotRow_11 : Cond.fieldLink RX5 11 "PeirceDesk$Rows" "cells" "[[I" ∈ wsX5_pivotRow := by decide +kernel
theorem nX5_pivotRow_5 : ∀ w ∈ wsX50, w ∈ wsX5_pivotRow := fun w h => List.mem_cons_of_mem _ (List.mem_append_right _ h)
theorem fX5_exchange_11 : Cond.fieldLink RX5 11 "PeirceDesk$Rows" "cells" "[[I" ∈ wsX5_exchange := by decide +kernel
theorem fX5_exchange_34 : Cond.fieldLink RX5 34 "PeirceDesk$Rows" "pivots" "I" ∈ wsX5_exchange := by decide +kernel
theorem nX5_exchange_5 : ∀ w ∈ wsX50, w ∈ wsX5_exchange := fun w h => List.mem_cons_of_mem _ (List.mem_append_right _ h)
theorem fX5_makePivotOne_11 : Cond.fieldLink RX5 11 "PeirceDesk$Rows" "cells" "[[I" ∈ wsX5_makePivotOne := by decide +kernel
theorem fX5_makePivotOne_22 : Cond.fieldLink RX5 22 "PeirceDesk$Rows" "modulus" "I" ∈ wsX5_makePivotOne := by decide +kernel
theorem fX5_makePivotOne_34 : Cond.fieldLink RX5 34 "PeirceDesk$Rows" "pivots" "I" ∈ wsX5_makePivotOne := by decide +kernel
theorem nX5_makePivotOne_5 : ∀ w ∈ wsX50, w ∈ wsX5_makePivotOne := fun w h => List.mem_cons_of_mem _ (List.mem_append_right _ h)
theorem fX5_clearColumn_11 : Cond.fieldLink RX5 11 "PeirceDesk$Rows" "cells" "[[I" ∈ wsX5_clearColumn := by decide +kernel
theorem fX5_clearColumn_22 : Cond.fieldLink RX5 22 "PeirceDesk$Rows" "modulus" "I" ∈ wsX5_clearColumn := by decide +kernel
theorem nX5_clearColumn_5 : ∀ w ∈ wsX50, w ∈ wsX5_clearColumn := fun w h => List.mem_cons_of_mem _ (List.mem_append_right _ h)
theorem fX6_init_11 : Cond.fieldLink RX6 11 "PeirceDesk$State" "elements" "[[I" ∈ wsX6_init := by decide +kernel
theorem nX6_init_6 : ∀ w ∈ wsX60, w ∈ wsX6_init := fun w h => List.mem_cons_of_mem _ (List.mem_append_right _ h)
theorem fX6_clear_11 : Cond.fieldLink RX6 11 "PeirceDesk$State" "elements" "[[I" ∈ wsX6_clear := by decide +kernel
theorem fX6_clear_20 : Cond.fieldLink RX6 20 "PeirceDesk$State" "size" "I" ∈ wsX6_clear := by decide +kernel
theorem fX6_clear_24 : Cond.fieldLink RX6 24 "PeirceDesk$State" "modulus" "I" ∈ wsX6_clear := by decide +kernel
theorem nX6_clear_6 : ∀ w ∈ wsX60, w ∈ wsX6_clear := fun w h => List.mem_cons_of_mem _ (List.mem_append_right _ h)
theorem fX6_writeIdentity_20 : Cond.fieldLink RX6 20 "PeirceDesk$State" "size" "I" ∈ wsX6_writeIdentity := by decide +kernel
theorem nX6_writeIdentity_6 : ∀ w ∈ wsX60, w ∈ wsX6_writeIdentity := fun w h => List.mem_cons_of_mem _ (List.mem_append_right _ h)
theorem fX6_copyFrom_11 : Cond.fieldLink RX6 11 "PeirceDesk$State" "elements" "[[I" ∈ wsX6_copyFrom := by decide +kernel
theorem fX6_copyFrom_20 : Cond.fieldLink RX6 20 "PeirceDesk$State" "size" "I" ∈ wsX6_copyFrom := by decide +kernel
theorem fX6_copyFrom_24 : Cond.fieldLink RX6 24 "PeirceDesk$State" "modulus" "I" ∈ wsX6_copyFrom := by decide +kernel
theorem nX6_copyFrom_6 : ∀ w ∈ wsX60, w ∈ wsX6_copyFrom := fun w h => List.mem_cons_of_mem _ (List.mem_append_right _ h)
