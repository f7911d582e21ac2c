theorem fX8_init_7 : Cond.fieldLink RX8 7 "PeirceDeskModel" "z" "[I" ∈ wsX8_init := by decide +kernel
theorem fX8_init_13 : Cond.fieldLink RX8 13 "PeirceDeskModel" "past" "[I" ∈ wsX8_init := by decide +kernel
theorem fX8_init_16 : Cond.fieldLink RX8 16 "PeirceDeskModel" "slots" "[I" ∈ wsX8_init := by decide +kernel
theorem fX8_init_19 : Cond.fieldLink RX8 19 "PeirceDeskModel" "isSaved" "[Z" ∈ wsX8_init := by decide +kernel
theorem fX8_init_23 : Cond.fieldLink RX8 23 "PeirceDeskModel" "pad" "[C" ∈ wsX8_init := by decide +kernel
theorem fX8_init_27 : Cond.fieldLink RX8 27 "PeirceDeskModel" "w" "[I" ∈ wsX8_init := by decide +kernel
theorem fX8_init_30 : Cond.fieldLink RX8 30 "PeirceDeskModel" "rows" "[I" ∈ wsX8_init := by decide +kernel
theorem fX8_init_33 : Cond.fieldLink RX8 33 "PeirceDeskModel" "letters" "[I" ∈ wsX8_init := by decide +kernel
theorem fX8_init_36 : Cond.fieldLink RX8 36 "PeirceDeskModel" "sums" "[I" ∈ wsX8_init := by decide +kernel
theorem fX8_init_39 : Cond.fieldLink RX8 39 "PeirceDeskModel" "often" "[I" ∈ wsX8_init := by decide +kernel
theorem fX8_init_42 : Cond.fieldLink RX8 42 "PeirceDeskModel" "places" "[I" ∈ wsX8_init := by decide +kernel
theorem nX8_init_8 : ∀ w ∈ wsX80, w ∈ wsX8_init := fun w h => List.mem_cons_of_mem _ (List.mem_append_right _ h)
theorem fX8_clear_7 : Cond.fieldLink RX8 7 "PeirceDeskModel" "z" "[I" ∈ wsX8_clear := by decide +kernel
theorem nX8_clear_8 : ∀ w ∈ wsX80, w ∈ wsX8_clear := fun w h => List.mem_cons_of_mem _ (List.mem_append_right _ h)
theorem fX8_record_7 : Cond.fieldLink RX8 7 "PeirceDeskModel" "z" "[I" ∈ wsX8_record := by decide +kernel
theorem fX8_record_13 : Cond.fieldLink RX8 13 "PeirceDeskModel" "past" "[I" ∈ wsX8_record := by decide +kernel
theorem fX8_record_53 : Cond.fieldLink RX8 53 "PeirceDeskModel" "pastMany" "I" ∈ wsX8_record := by decide +kernel
theorem nX8_record_8 : ∀ w ∈ wsX80, w ∈ wsX8_record := fun w h => List.mem_cons_of_mem _ (List.mem_append_right _ h)
theorem fX8_undo_7 : Cond.fieldLink RX8 7 "PeirceDeskModel" "z" "[I" ∈ wsX8_undo := by decide +kernel
theorem fX8_undo_13 : Cond.fieldLink RX8 13 "PeirceDeskModel" "past" "[I" ∈ wsX8_undo := by decide +kernel
theorem fX8_undo_53 : Cond.fieldLink RX8 53 "PeirceDeskModel" "pastMany" "I" ∈ wsX8_undo := by decide +kernel
theorem nX8_undo_8 : ∀ w ∈ wsX80, w ∈ wsX8_undo := fun w h => List.mem_cons_of_mem _ (List.mem_append_right _ h)
theorem fX8_save_7 : Cond.fieldLink RX8 7 "PeirceDeskModel" "z" "[I" ∈ wsX8_save := by decide +kernel
theorem fX8_save_16 : Cond.fieldLink RX8 16 "PeirceDeskModel" "slots" "[I" ∈ wsX8_save := by decide +kernel
theorem fX8_save_19 : Cond.fieldLink RX8 19 "PeirceDeskModel" "isSaved" "[Z" ∈ wsX8_save := by decide +kernel
theorem nX8_save_8 : ∀ w ∈ wsX80, w ∈ wsX8_save := fun w h => List.mem_cons_of_mem _ (List.mem_append_right _ h)
theorem fX8_restore_7 : Cond.fieldLink RX8 7 "PeirceDeskModel" "z" "[I" ∈ wsX8_restore := by decide +kernel
theorem fX8_restore_16 : Cond.fieldLink RX8 16 "PeirceDeskModel" "slots" "[I" ∈ wsX8_restore := by decide +kernel
theorem fX8_restore_19 : Cond.fieldLink RX8 19 "PeirceDeskModel" "isSaved" "[Z" ∈ wsX8_restore := by decide +kernel
theorem nX8_restore_8 : ∀ w ∈ wsX80, w ∈ wsX8_restore := fun w h => List.mem_cons_of_mem _ (List.mem_append_right _ h)
theorem fX8_half_7 : Cond.fieldLink RX8 7 "PeirceDeskModel" "z" "[I" ∈ wsX8_half := by decide +kernel
theorem nX8_half_8 : ∀ w ∈ wsX80, w ∈ wsX8_half := fun w h => List.mem_cons_of_mem _ (List.mem_append_right _ h)
theorem fX8_within_7 : Cond.fieldLink RX8 7 "PeirceDeskModel" "z" "[I" ∈ wsX8_within := by decide +kernel
theorem nX8_within_8 : ∀ w ∈ wsX80, w ∈ wsX8_within := fun w h => List.mem_cons_of_mem _ (List.mem_append_right _ h)
theorem fX8_over_7 : Cond.fieldLink RX8 7 "PeirceDeskModel" "z" "[I" ∈ wsX8_over := by decide +kernel
theorem nX8_over_8 : ∀ w ∈ wsX80, w ∈ wsX8_over := fun w h => List.mem_cons_of_mem _ (List.mem_append_right _ h)
theorem fX8_times_7 : Cond.fieldLink RX8 7 "PeirceDeskModel" "z" "[I" ∈ wsX8_times := by decide +kernel
theorem fX8_times_27 : Cond.fieldLink RX8 27 "PeirceDeskModel" "w" "[I" ∈ wsX8_times := by decide +kernel
theorem nX8_times_8 : ∀ w ∈ wsX80, w ∈ wsX8_times := fun w h => List.mem_cons_of_mem _ (List.mem_append_right _ h)
theorem fX8_copy_27 : Cond.fieldLink RX8 27 "PeirceDeskModel" "w" "[I" ∈ wsX8_copy := by decide +kernel
theorem nX8_copy_8 : ∀ w ∈ wsX80, w ∈ wsX8_copy := fun w h => List.mem_cons_of_mem _ (List.mem_append_right _ h)
theorem fX8_blank_27 : Cond.fieldLink RX8 27 "PeirceDeskModel" "w" "[I" ∈ wsX8_blank := by decide +kernel
theorem nX8_blank_8 : ∀ w ∈ wsX80, w ∈ wsX8_blank := fun w h => List.mem_cons_of_mem _ (List.mem_append_right _ h)
theorem fX8_add_27 : Cond.fieldLink RX8 27 "PeirceDeskModel" "w" "[I" ∈ wsX8_add := by decide +kernel
theorem nX8_add_8 : ∀ w ∈ wsX80, w ∈ wsX8_add := fun w h => List.mem_cons_of_mem _ (List.mem_append_right _ h)
theorem fX8_areAlike_27 : Cond.fieldLink RX8 27 "PeirceDeskModel" "w" "[I" ∈ wsX8_areAlike := by decide +kernel
theorem nX8_areAlike_8 : ∀ w ∈ wsX80, w ∈ wsX8_areAlike := fun w h => List.mem_cons_of_mem _ (List.mem_append_right _ h)
theorem fX8_isNothing_27 : Cond.fieldLink RX8 27 "PeirceDeskModel" "w" "[I" ∈ wsX8_isNothing := by decide +kernel
theorem nX8_isNothing_8 : ∀ w ∈ wsX80, w ∈ wsX8_isNothing := fun w h => List.mem_cons_of_mem _ (List.mem_append_right _ h)
theorem fX8_cellOf_27 : Cond.fieldLink RX8 27 "PeirceDeskModel" "w" "[I" ∈ wsX8_cellOf := by decide +kernel
theorem nX8_cellOf_8 : ∀ w ∈ wsX80, w ∈ wsX8_cellOf := fun w h => List.mem_cons_of_mem _ (List.mem_append_right _ h)
theorem fX8_determinant_7 : Cond.fieldLink RX8 7 "PeirceDeskModel" "z" "[I" ∈ wsX8_determinant := by decide +kernel
theorem fX8_determinant_27 : Cond.fieldLink RX8 27 "PeirceDeskModel" "w" "[I" ∈ wsX8_determinant := by decide +kernel
theorem nX8_determinant_8 : ∀ w ∈ wsX80, w ∈ wsX8_determinant := fun w h => List.mem_cons_of_mem _ (List.mem_append_right _ h)
theorem fX8_invert_7 : Cond.fieldLink RX8 7 "PeirceDeskModel" "z" "[I" ∈ wsX8_invert := by decide +kernel
theorem fX8_invert_27 : Cond.fieldLink RX8 27 "PeirceDeskModel" "w" "[I" ∈ wsX8_invert := by decide +kernel
theorem nX8_invert_8 : ∀ w ∈ wsX80, w ∈ wsX8_invert := fun w h => List.mem_cons_of_mem _ (List.mem_append_right _ h)
theorem fX8_layBase_7 : Cond.fieldLink RX8 7 "PeirceDeskModel" "z" "[I" ∈ wsX8_layBase := by decide +kernel
theorem fX8_layBase_27 : Cond.fieldLink RX8 27 "PeirceDeskModel" "w" "[I" ∈ wsX8_layBase := by decide +kernel
theorem nX8_layBase_8 : ∀ w ∈ wsX80, w ∈ wsX8_layBase := fun w h => List.mem_cons_of_mem _ (List.mem_append_right _ h)
theorem fX8_load_7 : Cond.fieldLink RX8 7 "PeirceDeskModel" "z" "[I" ∈ wsX8_load := by decide +kernel
theorem fX8_load_27 : Cond.fieldLink RX8 27 "PeirceDeskModel" "w" "[I" ∈ wsX8_load := by decide +kernel
theorem nX8_load_8 : ∀ w ∈ wsX80, w ∈ wsX8_load := fun w h => List.mem_cons_of_mem _ (List.mem_append_right _ h)
theorem fX8_store_7 : Cond.fieldLink RX8 7 "PeirceDeskModel" "z" "[I" ∈ wsX8_store := by decide +kernel
theorem fX8_store_27 : Cond.fieldLink RX8 27 "PeirceDeskModel" "w" "[I" ∈ wsX8_store := by decide +kernel
theorem nX8_store_8 : ∀ w ∈ wsX80, w ∈ wsX8_store := fun w h => List.mem_cons_of_mem _ (List.mem_append_right _ h)
theorem fX8_begin_7 : Cond.fieldLink RX8 7 "PeirceDeskModel" "z" "[I" ∈ wsX8_begin := by decide +kernel
theorem nX8_begin_8 : ∀ w ∈ wsX80, w ∈ wsX8_begin := fun w h => List.mem_cons_of_mem _ (List.mem_append_right _ h)
theorem fX8_isCell_7 : Cond.fieldLink RX8 7 "PeirceDeskModel" "z" "[I" ∈ wsX8_isCell := by decide +kernel
theorem nX8_isCell_8 : ∀ w ∈ wsX80, w ∈ wsX8_isCell := fun w h => List.mem_cons_of_mem _ (List.mem_append_right _ h)
theorem fX8_set_7 : Cond.fieldLink RX8 7 "PeirceDeskModel" "z" "[I" ∈ wsX8_set := by decide +kernel
theorem nX8_set_8 : ∀ w ∈ wsX80, w ∈ wsX8_set := fun w h => List.mem_cons_of_mem _ (List.mem_append_right _ h)
theorem fX8_base_7 : Cond.fieldLink RX8 7 "PeirceDeskModel" "z" "[I" ∈ wsX8_base := by decide +kernel
theorem fX8_base_27 : Cond.fieldLink RX8 27 "PeirceDeskModel" "w" "[I" ∈ wsX8_base := by decide +kernel
theorem nX8_base_8 : ∀ w ∈ wsX80, w ∈ wsX8_base := fun w h => List.mem_cons_of_mem _ (List.mem_append_right _ h)
theorem fX8_entry_27 : Cond.fieldLink RX8 27 "PeirceDeskModel" "w" "[I" ∈ wsX8_entry := by decide +kernel
theorem nX8_entry_8 : ∀ w ∈ wsX80, w ∈ wsX8_entry := fun w h => List.mem_cons_of_mem _ (List.mem_append_right _ h)
theorem fX8_isNew_7 : Cond.fieldLink RX8 7 "PeirceDeskModel" "z" "[I" ∈ wsX8_isNew := by decide +kernel
theorem fX8_isNew_27 : Cond.fieldLink RX8 27 "PeirceDeskModel" "w" "[I" ∈ wsX8_isNew := by decide +kernel
theorem fX8_isNew_30 : Cond.fieldLink RX8 30 "PeirceDeskModel" "rows" "[I" ∈ wsX8_isNew := by decide +kernel
theorem fX8_isNew_131 : Cond.fieldLink RX8 131 "PeirceDeskModel" "rowMany" "I" ∈ wsX8_isNew := by decide +kernel
theorem nX8_isNew_8 : ∀ w ∈ wsX80, w ∈ wsX8_isNew := fun w h => List.mem_cons_of_mem _ (List.mem_append_right _ h)
theorem fX8_leadOf_30 : Cond.fieldLink RX8 30 "PeirceDeskModel" "rows" "[I" ∈ wsX8_leadOf := by decide +kernel
theorem nX8_leadOf_8 : ∀ w ∈ wsX80, w ∈ wsX8_leadOf := fun w h => List.mem_cons_of_mem _ (List.mem_append_right _ h)
theorem fX8_rankOf_7 : Cond.fieldLink RX8 7 "PeirceDeskModel" "z" "[I" ∈ wsX8_rankOf := by decide +kernel
theorem fX8_rankOf_27 : Cond.fieldLink RX8 27 "PeirceDeskModel" "w" "[I" ∈ wsX8_rankOf := by decide +kernel
theorem fX8_rankOf_131 : Cond.fieldLink RX8 131 "PeirceDeskModel" "rowMany" "I" ∈ wsX8_rankOf := by decide +kernel
theorem nX8_rankOf_8 : ∀ w ∈ wsX80, w ∈ wsX8_rankOf := fun w h => List.mem_cons_of_mem _ (List.mem_append_right _ h)
theorem fX8_degreeOf_131 : Cond.fieldLink RX8 131 "PeirceDeskModel" "rowMany" "I" ∈ wsX8_degreeOf := by decide +kernel
theorem nX8_degreeOf_8 : ∀ w ∈ wsX80, w ∈ wsX8_degreeOf := fun w h => List.mem_cons_of_mem _ (List.mem_append_right _ h)
theorem fX8_trace_7 : Cond.fieldLink RX8 7 "PeirceDeskModel" "z" "[I" ∈ wsX8_trace := by decide +kernel
theorem fX8_trace_27 : Cond.fieldLink RX8 27 "PeirceDeskModel" "w" "[I" ∈ wsX8_trace := by decide +kernel
theorem nX8_trace_8 : ∀ w ∈ wsX80, w ∈ wsX8_trace := fun w h => List.mem_cons_of_mem _ (List.mem_append_right _ h)
theorem fX8_count_7 : Cond.fieldLink RX8 7 "PeirceDeskModel" "z" "[I" ∈ wsX8_count := by decide +kernel
theorem fX8_count_53 : Cond.fieldLink RX8 53 "PeirceDeskModel" "pastMany" "I" ∈ wsX8_count := by decide +kernel
theorem fX8_count_159 : Cond.fieldLink RX8 159 "PeirceDeskModel" "typed" "I" ∈ wsX8_count := by decide +kernel
theorem nX8_count_8 : ∀ w ∈ wsX80, w ∈ wsX8_count := fun w h => List.mem_cons_of_mem _ (List.mem_append_right _ h)
theorem fX8_power_27 : Cond.fieldLink RX8 27 "PeirceDeskModel" "w" "[I" ∈ wsX8_power := by decide +kernel
theorem nX8_power_8 : ∀ w ∈ wsX80, w ∈ wsX8_power := fun w h => List.mem_cons_of_mem _ (List.mem_append_right _ h)
theorem fX8_partSize_7 : Cond.fieldLink RX8 7 "PeirceDeskModel" "z" "[I" ∈ wsX8_partSize := by decide +kernel
theorem fX8_partSize_27 : Cond.fieldLink RX8 27 "PeirceDeskModel" "w" "[I" ∈ wsX8_partSize := by decide +kernel
theorem fX8_partSize_131 : Cond.fieldLink RX8 131 "PeirceDeskModel" "rowMany" "I" ∈ wsX8_partSize := by decide +kernel
theorem nX8_partSize_8 : ∀ w ∈ wsX80, w ∈ wsX8_partSize := fun w h => List.mem_cons_of_mem _ (List.mem_append_right _ h)
theorem fX8_howMany_7 : Cond.fieldLink RX8 7 "PeirceDeskModel" "z" "[I" ∈ wsX8_howMany := by decide +kernel
theorem fX8_howMany_27 : Cond.fieldLink RX8 27 "PeirceDeskModel" "w" "[I" ∈ wsX8_howMany := by decide +kernel
theorem nX8_howMany_8 : ∀ w ∈ wsX80, w ∈ wsX8_howMany := fun w h => List.mem_cons_of_mem _ (List.mem_append_right _ h)
theorem fX8_put_23 : Cond.fieldLink RX8 23 "PeirceDeskModel" "pad" "[C" ∈ wsX8_put := by decide +kernel
theorem fX8_put_159 : Cond.fieldLink RX8 159 "PeirceDeskModel" "typed" "I" ∈ wsX8_put := by decide +kernel
theorem nX8_put_8 : ∀ w ∈ wsX80, w ∈ wsX8_put := fun w h => List.mem_cons_of_mem _ (List.mem_append_right _ h)
theorem fX8_wipe_159 : Cond.fieldLink RX8 159 "PeirceDeskModel" "typed" "I" ∈ wsX8_wipe := by decide +kernel
theorem nX8_wipe_8 : ∀ w ∈ wsX80, w ∈ wsX8_wipe := fun w h => List.mem_cons_of_mem _ (List.mem_append_right _ h)
theorem fX8_opens_33 : Cond.fieldLink RX8 33 "PeirceDeskModel" "letters" "[I" ∈ wsX8_opens := by decide +kernel
theorem fX8_opens_36 : Cond.fieldLink RX8 36 "PeirceDeskModel" "sums" "[I" ∈ wsX8_opens := by decide +kernel
theorem fX8_opens_39 : Cond.fieldLink RX8 39 "PeirceDeskModel" "often" "[I" ∈ wsX8_opens := by decide +kernel
theorem fX8_opens_42 : Cond.fieldLink RX8 42 "PeirceDeskModel" "places" "[I" ∈ wsX8_opens := by decide +kernel
theorem fX8_opens_167 : Cond.fieldLink RX8 167 "PeirceDeskModel" "depth" "I" ∈ wsX8_opens := by decide +kernel
theorem nX8_opens_8 : ∀ w ∈ wsX80, w ∈ wsX8_opens := fun w h => List.mem_cons_of_mem _ (List.mem_append_right _ h)
theorem fX8_counts_36 : Cond.fieldLink RX8 36 "PeirceDeskModel" "sums" "[I" ∈ wsX8_counts := by decide +kernel
theorem fX8_counts_39 : Cond.fieldLink RX8 39 "PeirceDeskModel" "often" "[I" ∈ wsX8_counts := by decide +kernel
theorem fX8_counts_167 : Cond.fieldLink RX8 167 "PeirceDeskModel" "depth" "I" ∈ wsX8_counts := by decide +kernel
theorem fX8_counts_174 : Cond.fieldLink RX8 174 "PeirceDeskModel" "works" "Z" ∈ wsX8_counts := by decide +kernel
theorem fX8_counts_178 : Cond.fieldLink RX8 178 "PeirceDeskModel" "wants" "I" ∈ wsX8_counts := by decide +kernel
theorem nX8_counts_8 : ∀ w ∈ wsX80, w ∈ wsX8_counts := fun w h => List.mem_cons_of_mem _ (List.mem_append_right _ h)
theorem fX8_closes_33 : Cond.fieldLink RX8 33 "PeirceDeskModel" "letters" "[I" ∈ wsX8_closes := by decide +kernel
theorem fX8_closes_36 : Cond.fieldLink RX8 36 "PeirceDeskModel" "sums" "[I" ∈ wsX8_closes := by decide +kernel
theorem fX8_closes_42 : Cond.fieldLink RX8 42 "PeirceDeskModel" "places" "[I" ∈ wsX8_closes := by decide +kernel
theorem fX8_closes_167 : Cond.fieldLink RX8 167 "PeirceDeskModel" "depth" "I" ∈ wsX8_closes := by decide +kernel
theorem fX8_closes_174 : Cond.fieldLink RX8 174 "PeirceDeskModel" "works" "Z" ∈ wsX8_closes := by decide +kernel
theorem fX8_closes_188 : Cond.fieldLink RX8 188 "PeirceDeskModel" "stop" "I" ∈ wsX8_closes := by decide +kernel
theorem nX8_closes_8 : ∀ w ∈ wsX80, w ∈ wsX8_closes := fun w h => List.mem_cons_of_mem _ (List.mem_append_right _ h)
theorem fX8_factor_178 : Cond.fieldLink RX8 178 "PeirceDeskModel" "wants" "I" ∈ wsX8_factor := by decide +kernel
theorem nX8_factor_8 : ∀ w ∈ wsX80, w ∈ wsX8_factor := fun w h => List.mem_cons_of_mem _ (List.mem_append_right _ h)
theorem fX8_behind_23 : Cond.fieldLink RX8 23 "PeirceDeskModel" "pad" "[C" ∈ wsX8_behind := by decide +kernel
theorem fX8_behind_33 : Cond.fieldLink RX8 33 "PeirceDeskModel" "letters" "[I" ∈ wsX8_behind := by decide +kernel
theorem fX8_behind_36 : Cond.fieldLink RX8 36 "PeirceDeskModel" "sums" "[I" ∈ wsX8_behind := by decide +kernel
theorem fX8_behind_39 : Cond.fieldLink RX8 39 "PeirceDeskModel" "often" "[I" ∈ wsX8_behind := by decide +kernel
theorem fX8_behind_167 : Cond.fieldLink RX8 167 "PeirceDeskModel" "depth" "I" ∈ wsX8_behind := by decide +kernel
theorem fX8_behind_178 : Cond.fieldLink RX8 178 "PeirceDeskModel" "wants" "I" ∈ wsX8_behind := by decide +kernel
theorem fX8_behind_209 : Cond.fieldLink RX8 209 "PeirceDeskModel" "isFormula" "Z" ∈ wsX8_behind := by decide +kernel
theorem fX8_behind_212 : Cond.fieldLink RX8 212 "PeirceDeskModel" "isEquation" "Z" ∈ wsX8_behind := by decide +kernel
theorem nX8_behind_8 : ∀ w ∈ wsX80, w ∈ wsX8_behind := fun w h => List.mem_cons_of_mem _ (List.mem_append_right _ h)
theorem fX8_stands_39 : Cond.fieldLink RX8 39 "PeirceDeskModel" "often" "[I" ∈ wsX8_stands := by decide +kernel
theorem fX8_stands_167 : Cond.fieldLink RX8 167 "PeirceDeskModel" "depth" "I" ∈ wsX8_stands := by decide +kernel
theorem fX8_stands_178 : Cond.fieldLink RX8 178 "PeirceDeskModel" "wants" "I" ∈ wsX8_stands := by decide +kernel
theorem nX8_stands_8 : ∀ w ∈ wsX80, w ∈ wsX8_stands := fun w h => List.mem_cons_of_mem _ (List.mem_append_right _ h)
theorem fX8_work_23 : Cond.fieldLink RX8 23 "PeirceDeskModel" "pad" "[C" ∈ wsX8_work := by decide +kernel
theorem fX8_work_36 : Cond.fieldLink RX8 36 "PeirceDeskModel" "sums" "[I" ∈ wsX8_work := by decide +kernel
theorem fX8_work_39 : Cond.fieldLink RX8 39 "PeirceDeskModel" "often" "[I" ∈ wsX8_work := by decide +kernel
theorem fX8_work_159 : Cond.fieldLink RX8 159 "PeirceDeskModel" "typed" "I" ∈ wsX8_work := by decide +kernel
theorem fX8_work_167 : Cond.fieldLink RX8 167 "PeirceDeskModel" "depth" "I" ∈ wsX8_work := by decide +kernel
theorem fX8_work_174 : Cond.fieldLink RX8 174 "PeirceDeskModel" "works" "Z" ∈ wsX8_work := by decide +kernel
theorem fX8_work_178 : Cond.fieldLink RX8 178 "PeirceDeskModel" "wants" "I" ∈ wsX8_work := by decide +kernel
theorem fX8_work_188 : Cond.fieldLink RX8 188 "PeirceDeskModel" "stop" "I" ∈ wsX8_work := by decide +kernel
theorem fX8_work_209 : Cond.fieldLink RX8 209 "PeirceDeskModel" "isFormula" "Z" ∈ wsX8_work := by decide +kernel
theorem fX8_work_212 : Cond.fieldLink RX8 212 "PeirceDeskModel" "isEquation" "Z" ∈ wsX8_work := by decide +kernel
theorem nX8_work_8 : ∀ w ∈ wsX80, w ∈ wsX8_work := fun w h => List.mem_cons_of_mem _ (List.mem_append_right _ h)
theorem fX8_run_23 : Cond.fieldLink RX8 23 "PeirceDeskModel" "pad" "[C" ∈ wsX8_run := by decide +kernel
theorem fX8_run_159 : Cond.fieldLink RX8 159 "PeirceDeskModel" "typed" "I" ∈ wsX8_run := by decide +kernel
theorem fX8_run_188 : Cond.fieldLink RX8 188 "PeirceDeskModel" "stop" "I" ∈ wsX8_run := by decide +kernel
theorem fX8_run_209 : Cond.fieldLink RX8 209 "PeirceDeskModel" "isFormula" "Z" ∈ wsX8_run := by decide +kernel
theorem nX8_run_8 : ∀ w ∈ wsX80, w ∈ wsX8_run := fun w h => List.mem_cons_of_mem _ (List.mem_append_right _ h)
theorem fX8_holds_188 : Cond.fieldLink RX8 188 "PeirceDeskModel" "stop" "I" ∈ wsX8_holds := by decide +kernel
theorem fX8_holds_209 : Cond.fieldLink RX8 209 "PeirceDeskModel" "isFormula" "Z" ∈ wsX8_holds := by decide +kernel
theorem nX8_holds_8 : ∀ w ∈ wsX80, w ∈ wsX8_holds := fun w h => List.mem_cons_of_mem _ (List.mem_append_right _ h)
theorem fX8_stops_188 : Cond.fieldLink RX8 188 "PeirceDeskModel" "stop" "I" ∈ wsX8_stops := by decide +kernel
theorem nX8_stops_8 : ∀ w ∈ wsX80, w ∈ wsX8_stops := fun w h => List.mem_cons_of_mem _ (List.mem_append_right _ h)
