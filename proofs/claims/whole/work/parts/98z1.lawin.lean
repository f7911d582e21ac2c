/-! the words of the law: all in the tables -/
set_option maxRecDepth 100000 in
theorem lin_r1 : ∀ w ∈ wsL_law_r1, w ∈ lw_tbl := fun w h => (goodIn_p wsL_law_r1 [116, 119] rfl (by decide +kernel) w h).1
set_option maxRecDepth 100000 in
theorem lin_r2 : ∀ w ∈ wsL_law_r2, w ∈ lw_tbl := fun w h => (goodIn_p wsL_law_r2 [124] rfl (by decide +kernel) w h).1
set_option maxRecDepth 100000 in
theorem lin_r3 : ∀ w ∈ wsL_law_r3, w ∈ lw_tbl := fun w h => (goodIn_p wsL_law_r3 [130, 137, 141] rfl (by decide +kernel) w h).1
set_option maxRecDepth 100000 in
theorem lin_r4 : ∀ w ∈ wsL_law_r4, w ∈ lw_tbl := fun w h => (goodIn_p wsL_law_r4 [167, 226, 258] rfl (by decide +kernel) w h).1
set_option maxRecDepth 100000 in
theorem lin_r5 : ∀ w ∈ wsL_law_r5, w ∈ lw_tbl := fun w h => (goodIn_p wsL_law_r5 [265, 311, 714] rfl (by decide +kernel) w h).1
set_option maxRecDepth 100000 in
theorem lin_r6 : ∀ w ∈ wsL_law_r6, w ∈ lw_tbl := fun w h => (goodIn_p wsL_law_r6 [719, 352, 356, 369, 360] rfl (by decide +kernel) w h).1
set_option maxRecDepth 100000 in
theorem lin_r7 : ∀ w ∈ wsL_law_r7, w ∈ lw_tbl := fun w h => (goodIn_p wsL_law_r7 [363, 803, 791, 799, 374] rfl (by decide +kernel) w h).1
set_option maxRecDepth 100000 in
theorem lin_r8 : ∀ w ∈ wsL_law_r8, w ∈ lw_tbl := fun w h => (goodIn_p wsL_law_r8 [377, 381, 807, 810, 814, 385, 389] rfl (by decide +kernel) w h).1
set_option maxRecDepth 100000 in
theorem lin_r9 : ∀ w ∈ wsL_law_r9, w ∈ lw_tbl := fun w h => (goodIn_p wsL_law_r9 [393, 397, 401, 405, 409, 413] rfl (by decide +kernel) w h).1
set_option maxRecDepth 100000 in
theorem lin_r10 : ∀ w ∈ wsL_law_r10, w ∈ lw_tbl := fun w h => (goodIn_p wsL_law_r10 [416, 420, 425, 430, 434, 439, 818] rfl (by decide +kernel) w h).1
set_option maxRecDepth 100000 in
theorem lin_r11 : ∀ w ∈ wsL_law_r11, w ∈ lw_tbl := fun w h => (goodIn_p wsL_law_r11 [822, 826, 830, 834, 444, 448] rfl (by decide +kernel) w h).1
set_option maxRecDepth 100000 in
theorem lin_r12 : ∀ w ∈ wsL_law_r12, w ∈ lw_tbl := fun w h => (goodIn_p wsL_law_r12 [452, 456, 460, 463, 467, 471, 475] rfl (by decide +kernel) w h).1
set_option maxRecDepth 100000 in
theorem lin_r13 : ∀ w ∈ wsL_law_r13, w ∈ lw_tbl := fun w h => (goodIn_p wsL_law_r13 [479, 838, 842, 846, 850, 854] rfl (by decide +kernel) w h).1
set_option maxRecDepth 100000 in
theorem lin_r14 : ∀ w ∈ wsL_law_r14, w ∈ lw_tbl := fun w h => (goodIn_p wsL_law_r14 [858, 862, 866, 870, 874, 878] rfl (by decide +kernel) w h).1
set_option maxRecDepth 100000 in
theorem lin_r15 : ∀ w ∈ wsL_law_r15, w ∈ lw_tbl := fun w h => (goodIn_p wsL_law_r15 [882, 886, 890, 894, 898, 483] rfl (by decide +kernel) w h).1
set_option maxRecDepth 100000 in
theorem lin_r16 : ∀ w ∈ wsL_law_r16, w ∈ lw_tbl := fun w h => (goodIn_p wsL_law_r16 [487, 491, 495, 499, 502] rfl (by decide +kernel) w h).1
set_option maxRecDepth 100000 in
theorem lin_r17 : ∀ w ∈ wsL_law_r17, w ∈ lw_tbl := fun w h => (goodIn_p wsL_law_r17 [506, 510, 514, 518, 522, 526, 530] rfl (by decide +kernel) w h).1
set_option maxRecDepth 100000 in
theorem lin_r18 : ∀ w ∈ wsL_law_r18, w ∈ lw_tbl := fun w h => (goodIn_p wsL_law_r18 [534, 539, 543, 550, 554] rfl (by decide +kernel) w h).1
set_option maxRecDepth 100000 in
theorem lin_r19 : ∀ w ∈ wsL_law_r19, w ∈ lw_tbl := fun w h => (goodIn_p wsL_law_r19 [558, 563, 568, 575, 1033, 983] rfl (by decide +kernel) w h).1
set_option maxRecDepth 100000 in
theorem lin_r20 : ∀ w ∈ wsL_law_r20, w ∈ lw_tbl := fun w h => (goodIn_p wsL_law_r20 [987, 991, 995, 998, 1002] rfl (by decide +kernel) w h).1
set_option maxRecDepth 100000 in
theorem lin_r21 : ∀ w ∈ wsL_law_r21, w ∈ lw_tbl := fun w h => (goodIn_p wsL_law_r21 [1005, 1009, 1013, 1017, 1021, 1025] rfl (by decide +kernel) w h).1
set_option maxRecDepth 100000 in
theorem lin_r22 : ∀ w ∈ wsL_law_r22, w ∈ lw_tbl := fun w h => (goodIn_p wsL_law_r22 [1029, 579, 582, 902, 586, 590, 594] rfl (by decide +kernel) w h).1
set_option maxRecDepth 100000 in
theorem lin_r23 : ∀ w ∈ wsL_law_r23, w ∈ lw_tbl := fun w h => (goodIn_p wsL_law_r23 [598, 602, 606, 611, 906, 910, 914] rfl (by decide +kernel) w h).1
set_option maxRecDepth 100000 in
theorem lin_r24 : ∀ w ∈ wsL_law_r24, w ∈ lw_tbl := fun w h => (goodIn_p wsL_law_r24 [918, 922, 926, 930, 934, 616] rfl (by decide +kernel) w h).1
set_option maxRecDepth 100000 in
theorem lin_r25 : ∀ w ∈ wsL_law_r25, w ∈ lw_tbl := fun w h => (goodIn_p wsL_law_r25 [620, 624, 938, 942, 628, 946] rfl (by decide +kernel) w h).1
set_option maxRecDepth 100000 in
theorem lin_r26 : ∀ w ∈ wsL_law_r26, w ∈ lw_tbl := fun w h => (goodIn_p wsL_law_r26 [633, 637, 950, 641, 645, 954] rfl (by decide +kernel) w h).1
set_option maxRecDepth 100000 in
theorem lin_r27 : ∀ w ∈ wsL_law_r27, w ∈ lw_tbl := fun w h => (goodIn_p wsL_law_r27 [649, 652, 958, 656, 660, 664, 962] rfl (by decide +kernel) w h).1
set_option maxRecDepth 100000 in
theorem lin_r28 : ∀ w ∈ wsL_law_r28, w ∈ lw_tbl := fun w h => (goodIn_p wsL_law_r28 [966, 668, 1037, 672, 1041, 676] rfl (by decide +kernel) w h).1
set_option maxRecDepth 100000 in
theorem lin_r29 : ∀ w ∈ wsL_law_r29, w ∈ lw_tbl := fun w h => (goodIn_p wsL_law_r29 [679, 684, 970, 688, 975, 692] rfl (by decide +kernel) w h).1
set_option maxRecDepth 100000 in
theorem lin_r30 : ∀ w ∈ wsL_law_r30, w ∈ lw_tbl := fun w h => (goodIn_p wsL_law_r30 [979, 696, 700, 784, 704, 788] rfl (by decide +kernel) w h).1
set_option maxRecDepth 100000 in
theorem lin_r31 : ∀ w ∈ wsL_law_r31, w ∈ lw_tbl := fun w h => (goodIn_p wsL_law_r31 [709, 795] rfl (by decide +kernel) w h).1
set_option maxRecDepth 100000 in
theorem lin_wsX70 : ∀ w ∈ wsX70, w ∈ lw_tbl := fun w h => (goodIn_p wsX70 [] rfl (by decide +kernel) w h).1
set_option maxRecDepth 100000 in
theorem lin_wsX80 : ∀ w ∈ wsX80, w ∈ lw_tbl := fun w h => (goodIn_p wsX80 [] rfl (by decide +kernel) w h).1
set_option maxRecDepth 100000 in
theorem lin_wsX00 : ∀ w ∈ wsX00, w ∈ lw_tbl := fun w h => (goodIn_p wsX00 [] rfl (by decide +kernel) w h).1
set_option maxRecDepth 100000 in
theorem lin_wsX30 : ∀ w ∈ wsX30, w ∈ lw_tbl := fun w h => (goodIn_p wsX30 [] rfl (by decide +kernel) w h).1
set_option maxRecDepth 100000 in
theorem lin_wsX40 : ∀ w ∈ wsX40, w ∈ lw_tbl := fun w h => (goodIn_p wsX40 [] rfl (by decide +kernel) w h).1
set_option maxRecDepth 100000 in
theorem lin_wsX20 : ∀ w ∈ wsX20, w ∈ lw_tbl := fun w h => (goodIn_p wsX20 [] rfl (by decide +kernel) w h).1
set_option maxRecDepth 100000 in
theorem lin_wsX60 : ∀ w ∈ wsX60, w ∈ lw_tbl := fun w h => (goodIn_p wsX60 [] rfl (by decide +kernel) w h).1
set_option maxRecDepth 100000 in
theorem lin_wsX50 : ∀ w ∈ wsX50, w ∈ lw_tbl := fun w h => (goodIn_p wsX50 [] rfl (by decide +kernel) w h).1
set_option maxRecDepth 100000 in
theorem lin_wsX10 : ∀ w ∈ wsX10, w ∈ lw_tbl := fun w h => (goodIn_p wsX10 [] rfl (by decide +kernel) w h).1
theorem wsL_law_in : ∀ w ∈ wsL_law, w ∈ lw_tbl := by
  unfold wsL_law
  exact List.forall_mem_append.mpr ⟨List.forall_mem_append.mpr ⟨List.forall_mem_append.mpr ⟨List.forall_mem_append.mpr ⟨List.forall_mem_append.mpr ⟨List.forall_mem_append.mpr ⟨List.forall_mem_append.mpr ⟨List.forall_mem_append.mpr ⟨List.forall_mem_append.mpr ⟨List.forall_mem_append.mpr ⟨List.forall_mem_append.mpr ⟨lin_r1, List.forall_mem_append.mpr ⟨lin_r2, List.forall_mem_append.mpr ⟨lin_r3, List.forall_mem_append.mpr ⟨lin_r4, List.forall_mem_append.mpr ⟨lin_r5, List.forall_mem_append.mpr ⟨lin_r6, List.forall_mem_append.mpr ⟨lin_r7, List.forall_mem_append.mpr ⟨lin_r8, List.forall_mem_append.mpr ⟨lin_r9, List.forall_mem_append.mpr ⟨lin_r10, List.forall_mem_append.mpr ⟨lin_r11, List.forall_mem_append.mpr ⟨lin_r12, List.forall_mem_append.mpr ⟨lin_r13, List.forall_mem_append.mpr ⟨lin_r14, List.forall_mem_append.mpr ⟨lin_r15, List.forall_mem_append.mpr ⟨lin_r16, List.forall_mem_append.mpr ⟨lin_r17, List.forall_mem_append.mpr ⟨lin_r18, List.forall_mem_append.mpr ⟨lin_r19, List.forall_mem_append.mpr ⟨lin_r20, List.forall_mem_append.mpr ⟨lin_r21, List.forall_mem_append.mpr ⟨lin_r22, List.forall_mem_append.mpr ⟨lin_r23, List.forall_mem_append.mpr ⟨lin_r24, List.forall_mem_append.mpr ⟨lin_r25, List.forall_mem_append.mpr ⟨lin_r26, List.forall_mem_append.mpr ⟨lin_r27, List.forall_mem_append.mpr ⟨lin_r28, List.forall_mem_append.mpr ⟨lin_r29, List.forall_mem_append.mpr ⟨lin_r30, lin_r31⟩⟩⟩⟩⟩⟩⟩⟩⟩⟩⟩⟩⟩⟩⟩⟩⟩⟩⟩⟩⟩⟩⟩⟩⟩⟩⟩⟩⟩⟩, lin_wsX70⟩, lin_wsX80⟩, lin_wsX00⟩, lin_wsX30⟩, lin_wsX40⟩, lin_wsX20⟩, lin_wsX60⟩, lin_wsX50⟩, lin_wsX10⟩, fun _ h => absurd h List.not_mem_nil⟩
