theorem hdX0_init : yX0_init.cls = RX0 ∧ yX0_init.cls ≠ "java/lang/invoke/MethodHandle" ∧ yX0_init.cls ≠ "java/lang/invoke/VarHandle" ∧ (parseMethodDescriptor yX0_init.desc).map (fun d => d.parameters.length) = some 0 := by decide +kernel
theorem iwX0_init_0 : ∀ w ∈ wsX00, w ∈ wsX0_init := fun _ h => List.mem_cons_of_mem _ (List.mem_append_right _ h)
theorem sX0_init_6 : zk_ps cX0_init wsX0_init RX0 6 0 0 := ⟨RX0, TX0, 5, 9, tyX0, rfl, iwX0_init_0, tyX0_ok, nmX0, by decide, by decide +kernel, rfl, rfl, by decide +kernel, dX0_init_6⟩
theorem sX0_init_11 : zk_ps cX0_init wsX0_init RX0 11 0 1 := ⟨RX0, TX0, 5, 15, tyX0, rfl, iwX0_init_0, tyX0_ok, nmX0, by decide, by decide +kernel, rfl, rfl, by decide +kernel, dX0_init_11⟩
theorem sX0_init_16 : zk_ps cX0_init wsX0_init RX0 16 0 2 := ⟨RX0, TX0, 5, 18, tyX0, rfl, iwX0_init_0, tyX0_ok, nmX0, by decide, by decide +kernel, rfl, rfl, by decide +kernel, dX0_init_16⟩
theorem sX0_init_21 : zk_ps cX0_init wsX0_init RX0 21 0 3 := ⟨RX0, TX0, 5, 21, tyX0, rfl, iwX0_init_0, tyX0_ok, nmX0, by decide, by decide +kernel, rfl, rfl, by decide +kernel, dX0_init_21⟩
theorem sX0_init_26 : zk_ps cX0_init wsX0_init RX0 26 0 4 := ⟨RX0, TX0, 5, 24, tyX0, rfl, iwX0_init_0, tyX0_ok, nmX0, by decide, by decide +kernel, rfl, rfl, by decide +kernel, dX0_init_26⟩
theorem hdX0_seek : yX0_seek.cls = RX0 ∧ yX0_seek.cls ≠ "java/lang/invoke/MethodHandle" ∧ yX0_seek.cls ≠ "java/lang/invoke/VarHandle" ∧ (parseMethodDescriptor yX0_seek.desc).map (fun d => d.parameters.length) = some 2 := by decide +kernel
theorem iwX0_seek_0 : ∀ w ∈ wsX00, w ∈ wsX0_seek := fun _ h => List.mem_cons_of_mem _ (List.mem_append_left _ (List.mem_append_left _ (List.mem_append_left _ (List.mem_append_right _ h))))
theorem iwX0_seek_4 : ∀ w ∈ wsX40, w ∈ wsX0_seek := fun _ h => List.mem_cons_of_mem _ (List.mem_append_left _ (List.mem_append_left _ (List.mem_append_right _ h)))
theorem iwX0_seek_5 : ∀ w ∈ wsX50, w ∈ wsX0_seek := fun _ h => List.mem_cons_of_mem _ (List.mem_append_left _ (List.mem_append_left _ (List.mem_append_left _ (List.mem_append_left _ (List.mem_append_right _ h)))))
theorem sX0_seek_3 : zk_gs cX0_seek wsX0_seek RX0 3 5 3 := ⟨RX5, TX5, 6, 27, rfl, iwX0_seek_5, by decide, by decide +kernel, rfl, dX0_seek_3⟩
theorem sX0_seek_11 : zk_ps cX0_seek wsX0_seek RX0 11 0 0 := ⟨RX0, TX0, 5, 9, tyX0, rfl, iwX0_seek_0, tyX0_ok, nmX0, by decide, by decide +kernel, rfl, rfl, by decide +kernel, dX0_seek_11⟩
theorem sX0_seek_26 : zk_gs cX0_seek wsX0_seek RX0 26 5 2 := ⟨RX5, TX5, 6, 43, rfl, iwX0_seek_5, by decide, by decide +kernel, rfl, dX0_seek_26⟩
theorem sX0_seek_55 : zk_gs cX0_seek wsX0_seek RX0 55 4 3 := ⟨RX4, TX4, 10, 50, rfl, iwX0_seek_4, by decide, by decide +kernel, rfl, dX0_seek_55⟩
theorem sX0_seek_59 : zk_gs cX0_seek wsX0_seek RX0 59 5 2 := ⟨RX5, TX5, 6, 43, rfl, iwX0_seek_5, by decide, by decide +kernel, rfl, dX0_seek_59⟩
theorem hdX0_tell : yX0_tell.cls = RX0 ∧ yX0_tell.cls ≠ "java/lang/invoke/MethodHandle" ∧ yX0_tell.cls ≠ "java/lang/invoke/VarHandle" ∧ (parseMethodDescriptor yX0_tell.desc).map (fun d => d.parameters.length) = some 1 := by decide +kernel
theorem iwX0_tell_0 : ∀ w ∈ wsX00, w ∈ wsX0_tell := fun _ h => List.mem_cons_of_mem _ (List.mem_append_right _ h)
theorem sX0_tell_29 : zk_gs cX0_tell wsX0_tell RX0 29 0 1 := ⟨RX0, TX0, 5, 15, rfl, iwX0_tell_0, by decide, by decide +kernel, rfl, dX0_tell_29⟩
theorem sX0_tell_34 : zk_gs cX0_tell wsX0_tell RX0 34 0 2 := ⟨RX0, TX0, 5, 18, rfl, iwX0_tell_0, by decide, by decide +kernel, rfl, dX0_tell_34⟩
theorem sX0_tell_39 : zk_gs cX0_tell wsX0_tell RX0 39 0 3 := ⟨RX0, TX0, 5, 21, rfl, iwX0_tell_0, by decide, by decide +kernel, rfl, dX0_tell_39⟩
theorem sX0_tell_44 : zk_gs cX0_tell wsX0_tell RX0 44 0 4 := ⟨RX0, TX0, 5, 24, rfl, iwX0_tell_0, by decide, by decide +kernel, rfl, dX0_tell_44⟩
theorem hdX0_weigh : yX0_weigh.cls = RX0 ∧ yX0_weigh.cls ≠ "java/lang/invoke/MethodHandle" ∧ yX0_weigh.cls ≠ "java/lang/invoke/VarHandle" ∧ (parseMethodDescriptor yX0_weigh.desc).map (fun d => d.parameters.length) = some 4 := by decide +kernel
theorem iwX0_weigh_0 : ∀ w ∈ wsX00, w ∈ wsX0_weigh := fun _ h => List.mem_cons_of_mem _ (List.mem_append_right _ h)
theorem iwX0_weigh_2 : ∀ w ∈ wsX20, w ∈ wsX0_weigh := fun _ h => List.mem_cons_of_mem _ (List.mem_append_left _ (List.mem_append_right _ h))
theorem sX0_weigh_1 : zk_gs cX0_weigh wsX0_weigh RX0 1 2 0 := ⟨RX2, TX2, 4, 57, rfl, iwX0_weigh_2, by decide, by decide +kernel, rfl, dX0_weigh_1⟩
theorem sX0_weigh_21 : zk_gs cX0_weigh wsX0_weigh RX0 21 0 0 := ⟨RX0, TX0, 5, 9, rfl, iwX0_weigh_0, by decide, by decide +kernel, rfl, dX0_weigh_21⟩
theorem sX0_weigh_26 : zk_ps cX0_weigh wsX0_weigh RX0 26 0 0 := ⟨RX0, TX0, 5, 9, tyX0, rfl, iwX0_weigh_0, tyX0_ok, nmX0, by decide, by decide +kernel, rfl, rfl, by decide +kernel, dX0_weigh_26⟩
theorem sX0_weigh_30 : zk_gs cX0_weigh wsX0_weigh RX0 30 0 0 := ⟨RX0, TX0, 5, 9, rfl, iwX0_weigh_0, by decide, by decide +kernel, rfl, dX0_weigh_30⟩
theorem sX0_weigh_38 : zk_gs cX0_weigh wsX0_weigh RX0 38 2 1 := ⟨RX2, TX2, 4, 66, rfl, iwX0_weigh_2, by decide, by decide +kernel, rfl, dX0_weigh_38⟩
theorem sX0_weigh_42 : zk_gs cX0_weigh wsX0_weigh RX0 42 0 3 := ⟨RX0, TX0, 5, 21, rfl, iwX0_weigh_0, by decide, by decide +kernel, rfl, dX0_weigh_42⟩
theorem sX0_weigh_50 : zk_ps cX0_weigh wsX0_weigh RX0 50 0 1 := ⟨RX0, TX0, 5, 15, tyX0, rfl, iwX0_weigh_0, tyX0_ok, nmX0, by decide, by decide +kernel, rfl, rfl, by decide +kernel, dX0_weigh_50⟩
theorem sX0_weigh_55 : zk_ps cX0_weigh wsX0_weigh RX0 55 0 2 := ⟨RX0, TX0, 5, 18, tyX0, rfl, iwX0_weigh_0, tyX0_ok, nmX0, by decide, by decide +kernel, rfl, rfl, by decide +kernel, dX0_weigh_55⟩
theorem sX0_weigh_60 : zk_gs cX0_weigh wsX0_weigh RX0 60 2 1 := ⟨RX2, TX2, 4, 66, rfl, iwX0_weigh_2, by decide, by decide +kernel, rfl, dX0_weigh_60⟩
theorem sX0_weigh_63 : zk_ps cX0_weigh wsX0_weigh RX0 63 0 3 := ⟨RX0, TX0, 5, 21, tyX0, rfl, iwX0_weigh_0, tyX0_ok, nmX0, by decide, by decide +kernel, rfl, rfl, by decide +kernel, dX0_weigh_63⟩
theorem sX0_weigh_72 : zk_ps cX0_weigh wsX0_weigh RX0 72 0 4 := ⟨RX0, TX0, 5, 24, tyX0, rfl, iwX0_weigh_0, tyX0_ok, nmX0, by decide, by decide +kernel, rfl, rfl, by decide +kernel, dX0_weigh_72⟩
theorem hdX1_begin : yX1_begin.cls = RX1 ∧ yX1_begin.cls ≠ "java/lang/invoke/MethodHandle" ∧ yX1_begin.cls ≠ "java/lang/invoke/VarHandle" ∧ (parseMethodDescriptor yX1_begin.desc).map (fun d => d.parameters.length) = some 1 := by decide +kernel
theorem iwX1_begin_1 : ∀ w ∈ wsX10, w ∈ wsX1_begin := fun _ h => List.mem_cons_of_mem _ (List.mem_append_left _ (List.mem_append_left _ (List.mem_append_left _ (List.mem_append_right _ h))))
theorem iwX1_begin_5 : ∀ w ∈ wsX50, w ∈ wsX1_begin := fun _ h => List.mem_cons_of_mem _ (List.mem_append_left _ (List.mem_append_left _ (List.mem_append_right _ h)))
theorem sX1_begin_1 : zk_gs cX1_begin wsX1_begin RX1 1 1 0 := ⟨RX1, TX1, 7, 12, rfl, iwX1_begin_1, by decide, by decide +kernel, rfl, dX1_begin_1⟩
theorem sX1_begin_5 : zk_gs cX1_begin wsX1_begin RX1 5 5 3 := ⟨RX5, TX5, 6, 43, rfl, iwX1_begin_5, by decide, by decide +kernel, rfl, dX1_begin_5⟩
theorem sX1_begin_12 : zk_gs cX1_begin wsX1_begin RX1 12 1 1 := ⟨RX1, TX1, 7, 18, rfl, iwX1_begin_1, by decide, by decide +kernel, rfl, dX1_begin_12⟩
theorem sX1_begin_19 : zk_gs cX1_begin wsX1_begin RX1 19 1 3 := ⟨RX1, TX1, 7, 29, rfl, iwX1_begin_1, by decide, by decide +kernel, rfl, dX1_begin_19⟩
theorem sX1_begin_26 : zk_gs cX1_begin wsX1_begin RX1 26 1 4 := ⟨RX1, TX1, 7, 33, rfl, iwX1_begin_1, by decide, by decide +kernel, rfl, dX1_begin_26⟩
theorem hdX1_goOn : yX1_goOn.cls = RX1 ∧ yX1_goOn.cls ≠ "java/lang/invoke/MethodHandle" ∧ yX1_goOn.cls ≠ "java/lang/invoke/VarHandle" ∧ (parseMethodDescriptor yX1_goOn.desc).map (fun d => d.parameters.length) = some 2 := by decide +kernel
theorem iwX1_goOn_1 : ∀ w ∈ wsX10, w ∈ wsX1_goOn := fun _ h => List.mem_cons_of_mem _ (List.mem_append_left _ (List.mem_append_left _ (List.mem_append_left _ (List.mem_append_left _ (List.mem_append_right _ h)))))
theorem iwX1_goOn_4 : ∀ w ∈ wsX40, w ∈ wsX1_goOn := fun _ h => List.mem_cons_of_mem _ (List.mem_append_left _ (List.mem_append_left _ (List.mem_append_right _ h)))
theorem iwX1_goOn_5 : ∀ w ∈ wsX50, w ∈ wsX1_goOn := fun _ h => List.mem_cons_of_mem _ (List.mem_append_left _ (List.mem_append_left _ (List.mem_append_left _ (List.mem_append_right _ h))))
theorem sX1_goOn_1 : zk_gs cX1_goOn wsX1_goOn RX1 1 1 3 := ⟨RX1, TX1, 7, 29, rfl, iwX1_goOn_1, by decide, by decide +kernel, rfl, dX1_goOn_1⟩
theorem sX1_goOn_5 : zk_gs cX1_goOn wsX1_goOn RX1 5 1 0 := ⟨RX1, TX1, 7, 12, rfl, iwX1_goOn_1, by decide, by decide +kernel, rfl, dX1_goOn_5⟩
theorem sX1_goOn_12 : zk_gs cX1_goOn wsX1_goOn RX1 12 1 4 := ⟨RX1, TX1, 7, 33, rfl, iwX1_goOn_1, by decide, by decide +kernel, rfl, dX1_goOn_12⟩
theorem sX1_goOn_16 : zk_gs cX1_goOn wsX1_goOn RX1 16 1 1 := ⟨RX1, TX1, 7, 18, rfl, iwX1_goOn_1, by decide, by decide +kernel, rfl, dX1_goOn_16⟩
theorem sX1_goOn_25 : zk_gs cX1_goOn wsX1_goOn RX1 25 1 0 := ⟨RX1, TX1, 7, 12, rfl, iwX1_goOn_1, by decide, by decide +kernel, rfl, dX1_goOn_25⟩
theorem sX1_goOn_33 : zk_gs cX1_goOn wsX1_goOn RX1 33 5 2 := ⟨RX5, TX5, 6, 63, rfl, iwX1_goOn_5, by decide, by decide +kernel, rfl, dX1_goOn_33⟩
theorem sX1_goOn_39 : zk_gs cX1_goOn wsX1_goOn RX1 39 5 2 := ⟨RX5, TX5, 6, 63, rfl, iwX1_goOn_5, by decide, by decide +kernel, rfl, dX1_goOn_39⟩
theorem sX1_goOn_49 : zk_gs cX1_goOn wsX1_goOn RX1 49 1 0 := ⟨RX1, TX1, 7, 12, rfl, iwX1_goOn_1, by decide, by decide +kernel, rfl, dX1_goOn_49⟩
theorem sX1_goOn_56 : zk_gs cX1_goOn wsX1_goOn RX1 56 1 1 := ⟨RX1, TX1, 7, 18, rfl, iwX1_goOn_1, by decide, by decide +kernel, rfl, dX1_goOn_56⟩
theorem sX1_goOn_60 : zk_gs cX1_goOn wsX1_goOn RX1 60 4 3 := ⟨RX4, TX4, 10, 74, rfl, iwX1_goOn_4, by decide, by decide +kernel, rfl, dX1_goOn_60⟩
theorem hdX1_init : yX1_init.cls = RX1 ∧ yX1_init.cls ≠ "java/lang/invoke/MethodHandle" ∧ yX1_init.cls ≠ "java/lang/invoke/VarHandle" ∧ (parseMethodDescriptor yX1_init.desc).map (fun d => d.parameters.length) = some 0 := by decide +kernel
theorem iwX1_init_1 : ∀ w ∈ wsX10, w ∈ wsX1_init := fun _ h => List.mem_cons_of_mem _ (List.mem_append_left _ (List.mem_append_right _ h))
theorem sX1_init_12 : zk_pf cX1_init wsX1_init RX1 12 1 0 (.object "PotCuts$Liquid") := ⟨RX1, TX1, 7, 12, tyX1, rfl, iwX1_init_1, tyX1_ok, nmX1, by decide, by decide +kernel, rfl, rfl, rfl, by decide +kernel, dX1_init_12⟩
theorem sX1_init_23 : zk_pf cX1_init wsX1_init RX1 23 1 1 (.object "PotCuts$Liquid") := ⟨RX1, TX1, 7, 18, tyX1, rfl, iwX1_init_1, tyX1_ok, nmX1, by decide, by decide +kernel, rfl, rfl, rfl, by decide +kernel, dX1_init_23⟩
theorem sX1_init_34 : zk_pf cX1_init wsX1_init RX1 34 1 2 (.object "PotCuts$Liquid") := ⟨RX1, TX1, 7, 21, tyX1, rfl, iwX1_init_1, tyX1_ok, nmX1, by decide, by decide +kernel, rfl, rfl, rfl, by decide +kernel, dX1_init_34⟩
theorem sX1_init_48 : zk_pf cX1_init wsX1_init RX1 48 1 3 (.object "PotCuts$Row") := ⟨RX1, TX1, 7, 29, tyX1, rfl, iwX1_init_1, tyX1_ok, nmX1, by decide, by decide +kernel, rfl, rfl, rfl, by decide +kernel, dX1_init_48⟩
theorem sX1_init_62 : zk_pf cX1_init wsX1_init RX1 62 1 4 (.object "PotCuts$Row") := ⟨RX1, TX1, 7, 33, tyX1, rfl, iwX1_init_1, tyX1_ok, nmX1, by decide, by decide +kernel, rfl, rfl, rfl, by decide +kernel, dX1_init_62⟩
theorem sX1_init_67 : zk_ps cX1_init wsX1_init RX1 67 1 5 := ⟨RX1, TX1, 7, 36, tyX1, rfl, iwX1_init_1, tyX1_ok, nmX1, by decide, by decide +kernel, rfl, rfl, by decide +kernel, dX1_init_67⟩
theorem sX1_init_72 : zk_ps cX1_init wsX1_init RX1 72 1 6 := ⟨RX1, TX1, 7, 40, tyX1, rfl, iwX1_init_1, tyX1_ok, nmX1, by decide, by decide +kernel, rfl, rfl, by decide +kernel, dX1_init_72⟩
theorem hdX1_runsToFill : yX1_runsToFill.cls = RX1 ∧ yX1_runsToFill.cls ≠ "java/lang/invoke/MethodHandle" ∧ yX1_runsToFill.cls ≠ "java/lang/invoke/VarHandle" ∧ (parseMethodDescriptor yX1_runsToFill.desc).map (fun d => d.parameters.length) = some 3 := by decide +kernel
theorem iwX1_runsToFill_1 : ∀ w ∈ wsX10, w ∈ wsX1_runsToFill := fun _ h => List.mem_cons_of_mem _ (List.mem_append_left _ (List.mem_append_left _ (List.mem_append_left _ (List.mem_append_left _ (List.mem_append_right _ h)))))
theorem iwX1_runsToFill_2 : ∀ w ∈ wsX20, w ∈ wsX1_runsToFill := fun _ h => List.mem_cons_of_mem _ (List.mem_append_left _ (List.mem_append_left _ (List.mem_append_left _ (List.mem_append_right _ h))))
theorem sX1_runsToFill_23 : zk_gs cX1_runsToFill wsX1_runsToFill RX1 23 1 1 := ⟨RX1, TX1, 7, 18, rfl, iwX1_runsToFill_1, by decide, by decide +kernel, rfl, dX1_runsToFill_23⟩
theorem sX1_runsToFill_26 : zk_gs cX1_runsToFill wsX1_runsToFill RX1 26 2 0 := ⟨RX2, TX2, 4, 99, rfl, iwX1_runsToFill_2, by decide, by decide +kernel, rfl, dX1_runsToFill_26⟩
theorem hdX1_settle : yX1_settle.cls = RX1 ∧ yX1_settle.cls ≠ "java/lang/invoke/MethodHandle" ∧ yX1_settle.cls ≠ "java/lang/invoke/VarHandle" ∧ (parseMethodDescriptor yX1_settle.desc).map (fun d => d.parameters.length) = some 2 := by decide +kernel
theorem iwX1_settle_1 : ∀ w ∈ wsX10, w ∈ wsX1_settle := fun _ h => List.mem_cons_of_mem _ (List.mem_append_left _ (List.mem_append_left _ (List.mem_append_left _ (List.mem_append_left _ (List.mem_append_right _ h)))))
theorem sX1_settle_21 : zk_gs cX1_settle wsX1_settle RX1 21 1 3 := ⟨RX1, TX1, 7, 29, rfl, iwX1_settle_1, by decide, by decide +kernel, rfl, dX1_settle_21⟩
theorem sX1_settle_25 : zk_gs cX1_settle wsX1_settle RX1 25 1 0 := ⟨RX1, TX1, 7, 12, rfl, iwX1_settle_1, by decide, by decide +kernel, rfl, dX1_settle_25⟩
theorem sX1_settle_41 : zk_ps cX1_settle wsX1_settle RX1 41 1 5 := ⟨RX1, TX1, 7, 36, tyX1, rfl, iwX1_settle_1, tyX1_ok, nmX1, by decide, by decide +kernel, rfl, rfl, by decide +kernel, dX1_settle_41⟩
theorem sX1_settle_49 : zk_ps cX1_settle wsX1_settle RX1 49 1 6 := ⟨RX1, TX1, 7, 40, tyX1, rfl, iwX1_settle_1, tyX1_ok, nmX1, by decide, by decide +kernel, rfl, rfl, by decide +kernel, dX1_settle_49⟩
theorem sX1_settle_53 : zk_gs cX1_settle wsX1_settle RX1 53 1 4 := ⟨RX1, TX1, 7, 33, rfl, iwX1_settle_1, by decide, by decide +kernel, rfl, dX1_settle_53⟩
theorem sX1_settle_59 : zk_gs cX1_settle wsX1_settle RX1 59 1 2 := ⟨RX1, TX1, 7, 21, rfl, iwX1_settle_1, by decide, by decide +kernel, rfl, dX1_settle_59⟩
theorem sX1_settle_66 : zk_gs cX1_settle wsX1_settle RX1 66 1 1 := ⟨RX1, TX1, 7, 18, rfl, iwX1_settle_1, by decide, by decide +kernel, rfl, dX1_settle_66⟩
theorem sX1_settle_70 : zk_gs cX1_settle wsX1_settle RX1 70 1 2 := ⟨RX1, TX1, 7, 21, rfl, iwX1_settle_1, by decide, by decide +kernel, rfl, dX1_settle_70⟩
theorem hdX2_add : yX2_add.cls = RX2 ∧ yX2_add.cls ≠ "java/lang/invoke/MethodHandle" ∧ yX2_add.cls ≠ "java/lang/invoke/VarHandle" ∧ (parseMethodDescriptor yX2_add.desc).map (fun d => d.parameters.length) = some 1 := by decide +kernel
theorem iwX2_add_2 : ∀ w ∈ wsX20, w ∈ wsX2_add := fun _ h => List.mem_cons_of_mem _ (List.mem_append_right _ h)
theorem sX2_add_2 : zk_gs cX2_add wsX2_add RX2 2 2 0 := ⟨RX2, TX2, 4, 9, rfl, iwX2_add_2, by decide, by decide +kernel, rfl, dX2_add_2⟩
theorem sX2_add_6 : zk_gs cX2_add wsX2_add RX2 6 2 0 := ⟨RX2, TX2, 4, 9, rfl, iwX2_add_2, by decide, by decide +kernel, rfl, dX2_add_6⟩
theorem sX2_add_11 : zk_gs cX2_add wsX2_add RX2 11 2 1 := ⟨RX2, TX2, 4, 15, rfl, iwX2_add_2, by decide, by decide +kernel, rfl, dX2_add_11⟩
theorem sX2_add_15 : zk_gs cX2_add wsX2_add RX2 15 2 1 := ⟨RX2, TX2, 4, 15, rfl, iwX2_add_2, by decide, by decide +kernel, rfl, dX2_add_15⟩
theorem sX2_add_20 : zk_gs cX2_add wsX2_add RX2 20 2 2 := ⟨RX2, TX2, 4, 18, rfl, iwX2_add_2, by decide, by decide +kernel, rfl, dX2_add_20⟩
theorem sX2_add_24 : zk_gs cX2_add wsX2_add RX2 24 2 2 := ⟨RX2, TX2, 4, 18, rfl, iwX2_add_2, by decide, by decide +kernel, rfl, dX2_add_24⟩
theorem sX2_add_29 : zk_gs cX2_add wsX2_add RX2 29 2 3 := ⟨RX2, TX2, 4, 21, rfl, iwX2_add_2, by decide, by decide +kernel, rfl, dX2_add_29⟩
theorem sX2_add_33 : zk_gs cX2_add wsX2_add RX2 33 2 3 := ⟨RX2, TX2, 4, 21, rfl, iwX2_add_2, by decide, by decide +kernel, rfl, dX2_add_33⟩
theorem hdX2_become : yX2_become.cls = RX2 ∧ yX2_become.cls ≠ "java/lang/invoke/MethodHandle" ∧ yX2_become.cls ≠ "java/lang/invoke/VarHandle" ∧ (parseMethodDescriptor yX2_become.desc).map (fun d => d.parameters.length) = some 1 := by decide +kernel
theorem iwX2_become_2 : ∀ w ∈ wsX20, w ∈ wsX2_become := fun _ h => List.mem_cons_of_mem _ (List.mem_append_right _ h)
theorem sX2_become_2 : zk_gs cX2_become wsX2_become RX2 2 2 0 := ⟨RX2, TX2, 4, 9, rfl, iwX2_become_2, by decide, by decide +kernel, rfl, dX2_become_2⟩
theorem sX2_become_6 : zk_gs cX2_become wsX2_become RX2 6 2 1 := ⟨RX2, TX2, 4, 15, rfl, iwX2_become_2, by decide, by decide +kernel, rfl, dX2_become_6⟩
theorem sX2_become_10 : zk_gs cX2_become wsX2_become RX2 10 2 2 := ⟨RX2, TX2, 4, 18, rfl, iwX2_become_2, by decide, by decide +kernel, rfl, dX2_become_10⟩
theorem sX2_become_14 : zk_gs cX2_become wsX2_become RX2 14 2 3 := ⟨RX2, TX2, 4, 21, rfl, iwX2_become_2, by decide, by decide +kernel, rfl, dX2_become_14⟩
theorem hdX2_clear : yX2_clear.cls = RX2 ∧ yX2_clear.cls ≠ "java/lang/invoke/MethodHandle" ∧ yX2_clear.cls ≠ "java/lang/invoke/VarHandle" ∧ (parseMethodDescriptor yX2_clear.desc).map (fun d => d.parameters.length) = some 0 := by decide +kernel
theorem hdX2_init : yX2_init.cls = RX2 ∧ yX2_init.cls ≠ "java/lang/invoke/MethodHandle" ∧ yX2_init.cls ≠ "java/lang/invoke/VarHandle" ∧ (parseMethodDescriptor yX2_init.desc).map (fun d => d.parameters.length) = some 0 := by decide +kernel
theorem iwX2_init_2 : ∀ w ∈ wsX20, w ∈ wsX2_init := fun _ h => List.mem_cons_of_mem _ (List.mem_append_right _ h)
theorem sX2_init_6 : zk_ps cX2_init wsX2_init RX2 6 2 0 := ⟨RX2, TX2, 4, 9, tyX2, rfl, iwX2_init_2, tyX2_ok, nmX2, by decide, by decide +kernel, rfl, rfl, by decide +kernel, dX2_init_6⟩
theorem sX2_init_11 : zk_ps cX2_init wsX2_init RX2 11 2 1 := ⟨RX2, TX2, 4, 15, tyX2, rfl, iwX2_init_2, tyX2_ok, nmX2, by decide, by decide +kernel, rfl, rfl, by decide +kernel, dX2_init_11⟩
theorem sX2_init_16 : zk_ps cX2_init wsX2_init RX2 16 2 2 := ⟨RX2, TX2, 4, 18, tyX2, rfl, iwX2_init_2, tyX2_ok, nmX2, by decide, by decide +kernel, rfl, rfl, by decide +kernel, dX2_init_16⟩
theorem sX2_init_21 : zk_ps cX2_init wsX2_init RX2 21 2 3 := ⟨RX2, TX2, 4, 21, tyX2, rfl, iwX2_init_2, tyX2_ok, nmX2, by decide, by decide +kernel, rfl, rfl, by decide +kernel, dX2_init_21⟩
theorem hdX2_lose : yX2_lose.cls = RX2 ∧ yX2_lose.cls ≠ "java/lang/invoke/MethodHandle" ∧ yX2_lose.cls ≠ "java/lang/invoke/VarHandle" ∧ (parseMethodDescriptor yX2_lose.desc).map (fun d => d.parameters.length) = some 1 := by decide +kernel
theorem iwX2_lose_2 : ∀ w ∈ wsX20, w ∈ wsX2_lose := fun _ h => List.mem_cons_of_mem _ (List.mem_append_right _ h)
theorem sX2_lose_2 : zk_gs cX2_lose wsX2_lose RX2 2 2 0 := ⟨RX2, TX2, 4, 9, rfl, iwX2_lose_2, by decide, by decide +kernel, rfl, dX2_lose_2⟩
theorem sX2_lose_6 : zk_gs cX2_lose wsX2_lose RX2 6 2 0 := ⟨RX2, TX2, 4, 9, rfl, iwX2_lose_2, by decide, by decide +kernel, rfl, dX2_lose_6⟩
theorem sX2_lose_11 : zk_gs cX2_lose wsX2_lose RX2 11 2 1 := ⟨RX2, TX2, 4, 15, rfl, iwX2_lose_2, by decide, by decide +kernel, rfl, dX2_lose_11⟩
theorem sX2_lose_15 : zk_gs cX2_lose wsX2_lose RX2 15 2 1 := ⟨RX2, TX2, 4, 15, rfl, iwX2_lose_2, by decide, by decide +kernel, rfl, dX2_lose_15⟩
theorem sX2_lose_20 : zk_gs cX2_lose wsX2_lose RX2 20 2 2 := ⟨RX2, TX2, 4, 18, rfl, iwX2_lose_2, by decide, by decide +kernel, rfl, dX2_lose_20⟩
theorem sX2_lose_24 : zk_gs cX2_lose wsX2_lose RX2 24 2 2 := ⟨RX2, TX2, 4, 18, rfl, iwX2_lose_2, by decide, by decide +kernel, rfl, dX2_lose_24⟩
theorem sX2_lose_29 : zk_gs cX2_lose wsX2_lose RX2 29 2 3 := ⟨RX2, TX2, 4, 21, rfl, iwX2_lose_2, by decide, by decide +kernel, rfl, dX2_lose_29⟩
theorem sX2_lose_33 : zk_gs cX2_lose wsX2_lose RX2 33 2 3 := ⟨RX2, TX2, 4, 21, rfl, iwX2_lose_2, by decide, by decide +kernel, rfl, dX2_lose_33⟩
theorem hdX2_put : yX2_put.cls = RX2 ∧ yX2_put.cls ≠ "java/lang/invoke/MethodHandle" ∧ yX2_put.cls ≠ "java/lang/invoke/VarHandle" ∧ (parseMethodDescriptor yX2_put.desc).map (fun d => d.parameters.length) = some 4 := by decide +kernel
theorem iwX2_put_2 : ∀ w ∈ wsX20, w ∈ wsX2_put := fun _ h => List.mem_cons_of_mem _ (List.mem_append_right _ h)
theorem sX2_put_2 : zk_ps cX2_put wsX2_put RX2 2 2 0 := ⟨RX2, TX2, 4, 9, tyX2, rfl, iwX2_put_2, tyX2_ok, nmX2, by decide, by decide +kernel, rfl, rfl, by decide +kernel, dX2_put_2⟩
theorem sX2_put_7 : zk_ps cX2_put wsX2_put RX2 7 2 1 := ⟨RX2, TX2, 4, 15, tyX2, rfl, iwX2_put_2, tyX2_ok, nmX2, by decide, by decide +kernel, rfl, rfl, by decide +kernel, dX2_put_7⟩
theorem sX2_put_12 : zk_ps cX2_put wsX2_put RX2 12 2 2 := ⟨RX2, TX2, 4, 18, tyX2, rfl, iwX2_put_2, tyX2_ok, nmX2, by decide, by decide +kernel, rfl, rfl, by decide +kernel, dX2_put_12⟩
theorem sX2_put_18 : zk_ps cX2_put wsX2_put RX2 18 2 3 := ⟨RX2, TX2, 4, 21, tyX2, rfl, iwX2_put_2, tyX2_ok, nmX2, by decide, by decide +kernel, rfl, rfl, by decide +kernel, dX2_put_18⟩
theorem hdX2_tell : yX2_tell.cls = RX2 ∧ yX2_tell.cls ≠ "java/lang/invoke/MethodHandle" ∧ yX2_tell.cls ≠ "java/lang/invoke/VarHandle" ∧ (parseMethodDescriptor yX2_tell.desc).map (fun d => d.parameters.length) = some 1 := by decide +kernel
theorem iwX2_tell_2 : ∀ w ∈ wsX20, w ∈ wsX2_tell := fun _ h => List.mem_cons_of_mem _ (List.mem_append_right _ h)
theorem sX2_tell_37 : zk_gs cX2_tell wsX2_tell RX2 37 2 0 := ⟨RX2, TX2, 4, 9, rfl, iwX2_tell_2, by decide, by decide +kernel, rfl, dX2_tell_37⟩
theorem sX2_tell_42 : zk_gs cX2_tell wsX2_tell RX2 42 2 1 := ⟨RX2, TX2, 4, 15, rfl, iwX2_tell_2, by decide, by decide +kernel, rfl, dX2_tell_42⟩
theorem sX2_tell_47 : zk_gs cX2_tell wsX2_tell RX2 47 2 2 := ⟨RX2, TX2, 4, 18, rfl, iwX2_tell_2, by decide, by decide +kernel, rfl, dX2_tell_47⟩
theorem sX2_tell_52 : zk_gs cX2_tell wsX2_tell RX2 52 2 3 := ⟨RX2, TX2, 4, 21, rfl, iwX2_tell_2, by decide, by decide +kernel, rfl, dX2_tell_52⟩
theorem sX2_tell_57 : zk_gs cX2_tell wsX2_tell RX2 57 2 1 := ⟨RX2, TX2, 4, 15, rfl, iwX2_tell_2, by decide, by decide +kernel, rfl, dX2_tell_57⟩
theorem sX2_tell_61 : zk_gs cX2_tell wsX2_tell RX2 61 2 0 := ⟨RX2, TX2, 4, 9, rfl, iwX2_tell_2, by decide, by decide +kernel, rfl, dX2_tell_61⟩
theorem sX2_tell_69 : zk_gs cX2_tell wsX2_tell RX2 69 2 2 := ⟨RX2, TX2, 4, 18, rfl, iwX2_tell_2, by decide, by decide +kernel, rfl, dX2_tell_69⟩
theorem sX2_tell_73 : zk_gs cX2_tell wsX2_tell RX2 73 2 3 := ⟨RX2, TX2, 4, 21, rfl, iwX2_tell_2, by decide, by decide +kernel, rfl, dX2_tell_73⟩
theorem sX2_tell_78 : zk_gs cX2_tell wsX2_tell RX2 78 2 0 := ⟨RX2, TX2, 4, 9, rfl, iwX2_tell_2, by decide, by decide +kernel, rfl, dX2_tell_78⟩
theorem hdX3_append : yX3_append.cls = RX3 ∧ yX3_append.cls ≠ "java/lang/invoke/MethodHandle" ∧ yX3_append.cls ≠ "java/lang/invoke/VarHandle" ∧ (parseMethodDescriptor yX3_append.desc).map (fun d => d.parameters.length) = some 1 := by decide +kernel
theorem iwX3_append_2 : ∀ w ∈ wsX20, w ∈ wsX3_append := fun _ h => List.mem_cons_of_mem _ (List.mem_append_right _ h)
theorem iwX3_append_3 : ∀ w ∈ wsX30, w ∈ wsX3_append := fun _ h => List.mem_cons_of_mem _ (List.mem_append_left _ (List.mem_append_right _ h))
theorem sX3_append_1 : zk_gs cX3_append wsX3_append RX3 1 3 5 := ⟨RX3, TX3, 6, 9, rfl, iwX3_append_3, by decide, by decide +kernel, rfl, dX3_append_1⟩
theorem sX3_append_8 : zk_gs cX3_append wsX3_append RX3 8 3 5 := ⟨RX3, TX3, 6, 9, rfl, iwX3_append_3, by decide, by decide +kernel, rfl, dX3_append_8⟩
theorem sX3_append_12 : zk_gs cX3_append wsX3_append RX3 12 3 0 := ⟨RX3, TX3, 6, 21, rfl, iwX3_append_3, by decide, by decide +kernel, rfl, dX3_append_12⟩
theorem sX3_append_20 : zk_gs cX3_append wsX3_append RX3 20 3 1 := ⟨RX3, TX3, 6, 24, rfl, iwX3_append_3, by decide, by decide +kernel, rfl, dX3_append_20⟩
theorem sX3_append_24 : zk_gs cX3_append wsX3_append RX3 24 3 5 := ⟨RX3, TX3, 6, 9, rfl, iwX3_append_3, by decide, by decide +kernel, rfl, dX3_append_24⟩
theorem sX3_append_28 : zk_gs cX3_append wsX3_append RX3 28 2 0 := ⟨RX2, TX2, 4, 47, rfl, iwX3_append_2, by decide, by decide +kernel, rfl, dX3_append_28⟩
theorem sX3_append_33 : zk_gs cX3_append wsX3_append RX3 33 3 2 := ⟨RX3, TX3, 6, 28, rfl, iwX3_append_3, by decide, by decide +kernel, rfl, dX3_append_33⟩
theorem sX3_append_37 : zk_gs cX3_append wsX3_append RX3 37 3 5 := ⟨RX3, TX3, 6, 9, rfl, iwX3_append_3, by decide, by decide +kernel, rfl, dX3_append_37⟩
theorem sX3_append_41 : zk_gs cX3_append wsX3_append RX3 41 2 1 := ⟨RX2, TX2, 4, 49, rfl, iwX3_append_2, by decide, by decide +kernel, rfl, dX3_append_41⟩
theorem sX3_append_46 : zk_gs cX3_append wsX3_append RX3 46 3 3 := ⟨RX3, TX3, 6, 31, rfl, iwX3_append_3, by decide, by decide +kernel, rfl, dX3_append_46⟩
theorem sX3_append_50 : zk_gs cX3_append wsX3_append RX3 50 3 5 := ⟨RX3, TX3, 6, 9, rfl, iwX3_append_3, by decide, by decide +kernel, rfl, dX3_append_50⟩
theorem sX3_append_54 : zk_gs cX3_append wsX3_append RX3 54 2 2 := ⟨RX2, TX2, 4, 51, rfl, iwX3_append_2, by decide, by decide +kernel, rfl, dX3_append_54⟩
theorem sX3_append_59 : zk_gs cX3_append wsX3_append RX3 59 3 4 := ⟨RX3, TX3, 6, 34, rfl, iwX3_append_3, by decide, by decide +kernel, rfl, dX3_append_59⟩
theorem sX3_append_63 : zk_gs cX3_append wsX3_append RX3 63 3 5 := ⟨RX3, TX3, 6, 9, rfl, iwX3_append_3, by decide, by decide +kernel, rfl, dX3_append_63⟩
theorem sX3_append_67 : zk_gs cX3_append wsX3_append RX3 67 2 3 := ⟨RX2, TX2, 4, 53, rfl, iwX3_append_2, by decide, by decide +kernel, rfl, dX3_append_67⟩
theorem sX3_append_73 : zk_gs cX3_append wsX3_append RX3 73 3 5 := ⟨RX3, TX3, 6, 9, rfl, iwX3_append_3, by decide, by decide +kernel, rfl, dX3_append_73⟩
theorem sX3_append_78 : zk_ps cX3_append wsX3_append RX3 78 3 5 := ⟨RX3, TX3, 6, 9, tyX3, rfl, iwX3_append_3, tyX3_ok, nmX3, by decide, by decide +kernel, rfl, rfl, by decide +kernel, dX3_append_78⟩
theorem hdX3_appendAsNewest : yX3_appendAsNewest.cls = RX3 ∧ yX3_appendAsNewest.cls ≠ "java/lang/invoke/MethodHandle" ∧ yX3_appendAsNewest.cls ≠ "java/lang/invoke/VarHandle" ∧ (parseMethodDescriptor yX3_appendAsNewest.desc).map (fun d => d.parameters.length) = some 1 := by decide +kernel
theorem iwX3_appendAsNewest_3 : ∀ w ∈ wsX30, w ∈ wsX3_appendAsNewest := fun _ h => List.mem_cons_of_mem _ (List.mem_append_left _ (List.mem_append_right _ h))
theorem sX3_appendAsNewest_1 : zk_gs cX3_appendAsNewest wsX3_appendAsNewest RX3 1 3 5 := ⟨RX3, TX3, 6, 9, rfl, iwX3_appendAsNewest_3, by decide, by decide +kernel, rfl, dX3_appendAsNewest_1⟩
theorem sX3_appendAsNewest_5 : zk_gs cX3_appendAsNewest wsX3_appendAsNewest RX3 5 3 0 := ⟨RX3, TX3, 6, 21, rfl, iwX3_appendAsNewest_3, by decide, by decide +kernel, rfl, dX3_appendAsNewest_5⟩
theorem hdX3_become : yX3_become.cls = RX3 ∧ yX3_become.cls ≠ "java/lang/invoke/MethodHandle" ∧ yX3_become.cls ≠ "java/lang/invoke/VarHandle" ∧ (parseMethodDescriptor yX3_become.desc).map (fun d => d.parameters.length) = some 1 := by decide +kernel
theorem iwX3_become_3 : ∀ w ∈ wsX30, w ∈ wsX3_become := fun _ h => List.mem_cons_of_mem _ (List.mem_append_right _ h)
theorem sX3_become_2 : zk_gs cX3_become wsX3_become RX3 2 3 5 := ⟨RX3, TX3, 6, 9, rfl, iwX3_become_3, by decide, by decide +kernel, rfl, dX3_become_2⟩
theorem sX3_become_6 : zk_gs cX3_become wsX3_become RX3 6 3 0 := ⟨RX3, TX3, 6, 21, rfl, iwX3_become_3, by decide, by decide +kernel, rfl, dX3_become_6⟩
theorem sX3_become_10 : zk_gs cX3_become wsX3_become RX3 10 3 0 := ⟨RX3, TX3, 6, 21, rfl, iwX3_become_3, by decide, by decide +kernel, rfl, dX3_become_10⟩
theorem sX3_become_24 : zk_gs cX3_become wsX3_become RX3 24 3 1 := ⟨RX3, TX3, 6, 24, rfl, iwX3_become_3, by decide, by decide +kernel, rfl, dX3_become_24⟩
theorem sX3_become_29 : zk_gs cX3_become wsX3_become RX3 29 3 1 := ⟨RX3, TX3, 6, 24, rfl, iwX3_become_3, by decide, by decide +kernel, rfl, dX3_become_29⟩
theorem sX3_become_38 : zk_gs cX3_become wsX3_become RX3 38 3 2 := ⟨RX3, TX3, 6, 28, rfl, iwX3_become_3, by decide, by decide +kernel, rfl, dX3_become_38⟩
theorem sX3_become_43 : zk_gs cX3_become wsX3_become RX3 43 3 2 := ⟨RX3, TX3, 6, 28, rfl, iwX3_become_3, by decide, by decide +kernel, rfl, dX3_become_43⟩
theorem sX3_become_52 : zk_gs cX3_become wsX3_become RX3 52 3 3 := ⟨RX3, TX3, 6, 31, rfl, iwX3_become_3, by decide, by decide +kernel, rfl, dX3_become_52⟩
theorem sX3_become_57 : zk_gs cX3_become wsX3_become RX3 57 3 3 := ⟨RX3, TX3, 6, 31, rfl, iwX3_become_3, by decide, by decide +kernel, rfl, dX3_become_57⟩
theorem sX3_become_66 : zk_gs cX3_become wsX3_become RX3 66 3 4 := ⟨RX3, TX3, 6, 34, rfl, iwX3_become_3, by decide, by decide +kernel, rfl, dX3_become_66⟩
theorem sX3_become_71 : zk_gs cX3_become wsX3_become RX3 71 3 4 := ⟨RX3, TX3, 6, 34, rfl, iwX3_become_3, by decide, by decide +kernel, rfl, dX3_become_71⟩
theorem sX3_become_81 : zk_ps cX3_become wsX3_become RX3 81 3 5 := ⟨RX3, TX3, 6, 9, tyX3, rfl, iwX3_become_3, tyX3_ok, nmX3, by decide, by decide +kernel, rfl, rfl, by decide +kernel, dX3_become_81⟩
theorem hdX3_clear : yX3_clear.cls = RX3 ∧ yX3_clear.cls ≠ "java/lang/invoke/MethodHandle" ∧ yX3_clear.cls ≠ "java/lang/invoke/VarHandle" ∧ (parseMethodDescriptor yX3_clear.desc).map (fun d => d.parameters.length) = some 0 := by decide +kernel
theorem iwX3_clear_3 : ∀ w ∈ wsX30, w ∈ wsX3_clear := fun _ h => List.mem_cons_of_mem _ (List.mem_append_right _ h)
theorem sX3_clear_2 : zk_ps cX3_clear wsX3_clear RX3 2 3 5 := ⟨RX3, TX3, 6, 9, tyX3, rfl, iwX3_clear_3, tyX3_ok, nmX3, by decide, by decide +kernel, rfl, rfl, by decide +kernel, dX3_clear_2⟩
theorem hdX3_dropBelow : yX3_dropBelow.cls = RX3 ∧ yX3_dropBelow.cls ≠ "java/lang/invoke/MethodHandle" ∧ yX3_dropBelow.cls ≠ "java/lang/invoke/VarHandle" ∧ (parseMethodDescriptor yX3_dropBelow.desc).map (fun d => d.parameters.length) = some 2 := by decide +kernel
theorem iwX3_dropBelow_3 : ∀ w ∈ wsX30, w ∈ wsX3_dropBelow := fun _ h => List.mem_cons_of_mem _ (List.mem_append_left _ (List.mem_append_right _ h))
theorem sX3_dropBelow_8 : zk_gs cX3_dropBelow wsX3_dropBelow RX3 8 3 5 := ⟨RX3, TX3, 6, 9, rfl, iwX3_dropBelow_3, by decide, by decide +kernel, rfl, dX3_dropBelow_8⟩
theorem sX3_dropBelow_48 : zk_ps cX3_dropBelow wsX3_dropBelow RX3 48 3 5 := ⟨RX3, TX3, 6, 9, tyX3, rfl, iwX3_dropBelow_3, tyX3_ok, nmX3, by decide, by decide +kernel, rfl, rfl, by decide +kernel, dX3_dropBelow_48⟩
theorem hdX3_dropEldest : yX3_dropEldest.cls = RX3 ∧ yX3_dropEldest.cls ≠ "java/lang/invoke/MethodHandle" ∧ yX3_dropEldest.cls ≠ "java/lang/invoke/VarHandle" ∧ (parseMethodDescriptor yX3_dropEldest.desc).map (fun d => d.parameters.length) = some 0 := by decide +kernel
theorem iwX3_dropEldest_3 : ∀ w ∈ wsX30, w ∈ wsX3_dropEldest := fun _ h => List.mem_cons_of_mem _ (List.mem_append_right _ h)
theorem sX3_dropEldest_4 : zk_gs cX3_dropEldest wsX3_dropEldest RX3 4 3 5 := ⟨RX3, TX3, 6, 9, rfl, iwX3_dropEldest_3, by decide, by decide +kernel, rfl, dX3_dropEldest_4⟩
theorem sX3_dropEldest_12 : zk_gs cX3_dropEldest wsX3_dropEldest RX3 12 3 0 := ⟨RX3, TX3, 6, 21, rfl, iwX3_dropEldest_3, by decide, by decide +kernel, rfl, dX3_dropEldest_12⟩
theorem sX3_dropEldest_34 : zk_gs cX3_dropEldest wsX3_dropEldest RX3 34 3 5 := ⟨RX3, TX3, 6, 9, rfl, iwX3_dropEldest_3, by decide, by decide +kernel, rfl, dX3_dropEldest_34⟩
theorem sX3_dropEldest_43 : zk_ps cX3_dropEldest wsX3_dropEldest RX3 43 3 5 := ⟨RX3, TX3, 6, 9, tyX3, rfl, iwX3_dropEldest_3, tyX3_ok, nmX3, by decide, by decide +kernel, rfl, rfl, by decide +kernel, dX3_dropEldest_43⟩
theorem hdX3_find : yX3_find.cls = RX3 ∧ yX3_find.cls ≠ "java/lang/invoke/MethodHandle" ∧ yX3_find.cls ≠ "java/lang/invoke/VarHandle" ∧ (parseMethodDescriptor yX3_find.desc).map (fun d => d.parameters.length) = some 1 := by decide +kernel
theorem iwX3_find_2 : ∀ w ∈ wsX20, w ∈ wsX3_find := fun _ h => List.mem_cons_of_mem _ (List.mem_append_right _ h)
theorem iwX3_find_3 : ∀ w ∈ wsX30, w ∈ wsX3_find := fun _ h => List.mem_cons_of_mem _ (List.mem_append_left _ (List.mem_append_right _ h))
theorem sX3_find_4 : zk_gs cX3_find wsX3_find RX3 4 3 5 := ⟨RX3, TX3, 6, 9, rfl, iwX3_find_3, by decide, by decide +kernel, rfl, dX3_find_4⟩
theorem sX3_find_12 : zk_gs cX3_find wsX3_find RX3 12 3 0 := ⟨RX3, TX3, 6, 21, rfl, iwX3_find_3, by decide, by decide +kernel, rfl, dX3_find_12⟩
theorem sX3_find_19 : zk_gs cX3_find wsX3_find RX3 19 3 2 := ⟨RX3, TX3, 6, 28, rfl, iwX3_find_3, by decide, by decide +kernel, rfl, dX3_find_19⟩
theorem sX3_find_25 : zk_gs cX3_find wsX3_find RX3 25 2 1 := ⟨RX2, TX2, 4, 49, rfl, iwX3_find_2, by decide, by decide +kernel, rfl, dX3_find_25⟩
theorem sX3_find_32 : zk_gs cX3_find wsX3_find RX3 32 3 4 := ⟨RX3, TX3, 6, 34, rfl, iwX3_find_3, by decide, by decide +kernel, rfl, dX3_find_32⟩
theorem sX3_find_38 : zk_gs cX3_find wsX3_find RX3 38 2 3 := ⟨RX2, TX2, 4, 53, rfl, iwX3_find_2, by decide, by decide +kernel, rfl, dX3_find_38⟩
theorem sX3_find_45 : zk_gs cX3_find wsX3_find RX3 45 3 3 := ⟨RX3, TX3, 6, 31, rfl, iwX3_find_3, by decide, by decide +kernel, rfl, dX3_find_45⟩
theorem sX3_find_51 : zk_gs cX3_find wsX3_find RX3 51 2 2 := ⟨RX2, TX2, 4, 51, rfl, iwX3_find_2, by decide, by decide +kernel, rfl, dX3_find_51⟩
theorem sX3_find_58 : zk_gs cX3_find wsX3_find RX3 58 3 1 := ⟨RX3, TX3, 6, 24, rfl, iwX3_find_3, by decide, by decide +kernel, rfl, dX3_find_58⟩
theorem sX3_find_64 : zk_gs cX3_find wsX3_find RX3 64 2 0 := ⟨RX2, TX2, 4, 47, rfl, iwX3_find_2, by decide, by decide +kernel, rfl, dX3_find_64⟩
theorem hdX3_holds : yX3_holds.cls = RX3 ∧ yX3_holds.cls ≠ "java/lang/invoke/MethodHandle" ∧ yX3_holds.cls ≠ "java/lang/invoke/VarHandle" ∧ (parseMethodDescriptor yX3_holds.desc).map (fun d => d.parameters.length) = some 1 := by decide +kernel
theorem iwX3_holds_3 : ∀ w ∈ wsX30, w ∈ wsX3_holds := fun _ h => List.mem_cons_of_mem _ (List.mem_append_right _ h)
theorem sX3_holds_6 : zk_gs cX3_holds wsX3_holds RX3 6 3 5 := ⟨RX3, TX3, 6, 9, rfl, iwX3_holds_3, by decide, by decide +kernel, rfl, dX3_holds_6⟩
theorem sX3_holds_14 : zk_gs cX3_holds wsX3_holds RX3 14 3 0 := ⟨RX3, TX3, 6, 21, rfl, iwX3_holds_3, by decide, by decide +kernel, rfl, dX3_holds_14⟩
theorem hdX3_init : yX3_init.cls = RX3 ∧ yX3_init.cls ≠ "java/lang/invoke/MethodHandle" ∧ yX3_init.cls ≠ "java/lang/invoke/VarHandle" ∧ (parseMethodDescriptor yX3_init.desc).map (fun d => d.parameters.length) = some 1 := by decide +kernel
theorem iwX3_init_3 : ∀ w ∈ wsX30, w ∈ wsX3_init := fun _ h => List.mem_cons_of_mem _ (List.mem_append_right _ h)
theorem sX3_init_6 : zk_ps cX3_init wsX3_init RX3 6 3 5 := ⟨RX3, TX3, 6, 9, tyX3, rfl, iwX3_init_3, tyX3_ok, nmX3, by decide, by decide +kernel, rfl, rfl, by decide +kernel, dX3_init_6⟩
theorem sX3_init_15 : zk_pf cX3_init wsX3_init RX3 15 3 0 (.int) := ⟨RX3, TX3, 6, 21, tyX3, rfl, iwX3_init_3, tyX3_ok, nmX3, by decide, by decide +kernel, rfl, rfl, rfl, by decide +kernel, dX3_init_15⟩
theorem sX3_init_20 : zk_gs cX3_init wsX3_init RX3 20 3 0 := ⟨RX3, TX3, 6, 21, rfl, iwX3_init_3, by decide, by decide +kernel, rfl, dX3_init_20⟩
theorem sX3_init_25 : zk_pf cX3_init wsX3_init RX3 25 3 1 (.array .int) := ⟨RX3, TX3, 6, 24, tyX3, rfl, iwX3_init_3, tyX3_ok, nmX3, by decide, by decide +kernel, rfl, rfl, rfl, by decide +kernel, dX3_init_25⟩
theorem sX3_init_30 : zk_gs cX3_init wsX3_init RX3 30 3 0 := ⟨RX3, TX3, 6, 21, rfl, iwX3_init_3, by decide, by decide +kernel, rfl, dX3_init_30⟩
theorem sX3_init_35 : zk_pf cX3_init wsX3_init RX3 35 3 2 (.array .int) := ⟨RX3, TX3, 6, 28, tyX3, rfl, iwX3_init_3, tyX3_ok, nmX3, by decide, by decide +kernel, rfl, rfl, rfl, by decide +kernel, dX3_init_35⟩
theorem sX3_init_40 : zk_gs cX3_init wsX3_init RX3 40 3 0 := ⟨RX3, TX3, 6, 21, rfl, iwX3_init_3, by decide, by decide +kernel, rfl, dX3_init_40⟩
theorem sX3_init_45 : zk_pf cX3_init wsX3_init RX3 45 3 3 (.array .int) := ⟨RX3, TX3, 6, 31, tyX3, rfl, iwX3_init_3, tyX3_ok, nmX3, by decide, by decide +kernel, rfl, rfl, rfl, by decide +kernel, dX3_init_45⟩
theorem sX3_init_50 : zk_gs cX3_init wsX3_init RX3 50 3 0 := ⟨RX3, TX3, 6, 21, rfl, iwX3_init_3, by decide, by decide +kernel, rfl, dX3_init_50⟩
theorem sX3_init_55 : zk_pf cX3_init wsX3_init RX3 55 3 4 (.array .int) := ⟨RX3, TX3, 6, 34, tyX3, rfl, iwX3_init_3, tyX3_ok, nmX3, by decide, by decide +kernel, rfl, rfl, rfl, by decide +kernel, dX3_init_55⟩
theorem hdX3_load : yX3_load.cls = RX3 ∧ yX3_load.cls ≠ "java/lang/invoke/MethodHandle" ∧ yX3_load.cls ≠ "java/lang/invoke/VarHandle" ∧ (parseMethodDescriptor yX3_load.desc).map (fun d => d.parameters.length) = some 2 := by decide +kernel
theorem iwX3_load_3 : ∀ w ∈ wsX30, w ∈ wsX3_load := fun _ h => List.mem_cons_of_mem _ (List.mem_append_left _ (List.mem_append_right _ h))
theorem sX3_load_10 : zk_gs cX3_load wsX3_load RX3 10 3 1 := ⟨RX3, TX3, 6, 24, rfl, iwX3_load_3, by decide, by decide +kernel, rfl, dX3_load_10⟩
theorem sX3_load_16 : zk_gs cX3_load wsX3_load RX3 16 3 2 := ⟨RX3, TX3, 6, 28, rfl, iwX3_load_3, by decide, by decide +kernel, rfl, dX3_load_16⟩
theorem sX3_load_22 : zk_gs cX3_load wsX3_load RX3 22 3 3 := ⟨RX3, TX3, 6, 31, rfl, iwX3_load_3, by decide, by decide +kernel, rfl, dX3_load_22⟩
theorem sX3_load_28 : zk_gs cX3_load wsX3_load RX3 28 3 4 := ⟨RX3, TX3, 6, 34, rfl, iwX3_load_3, by decide, by decide +kernel, rfl, dX3_load_28⟩
theorem hdX3_move : yX3_move.cls = RX3 ∧ yX3_move.cls ≠ "java/lang/invoke/MethodHandle" ∧ yX3_move.cls ≠ "java/lang/invoke/VarHandle" ∧ (parseMethodDescriptor yX3_move.desc).map (fun d => d.parameters.length) = some 2 := by decide +kernel
theorem iwX3_move_3 : ∀ w ∈ wsX30, w ∈ wsX3_move := fun _ h => List.mem_cons_of_mem _ (List.mem_append_right _ h)
theorem sX3_move_17 : zk_gs cX3_move wsX3_move RX3 17 3 1 := ⟨RX3, TX3, 6, 24, rfl, iwX3_move_3, by decide, by decide +kernel, rfl, dX3_move_17⟩
theorem sX3_move_22 : zk_gs cX3_move wsX3_move RX3 22 3 1 := ⟨RX3, TX3, 6, 24, rfl, iwX3_move_3, by decide, by decide +kernel, rfl, dX3_move_22⟩
theorem sX3_move_29 : zk_gs cX3_move wsX3_move RX3 29 3 2 := ⟨RX3, TX3, 6, 28, rfl, iwX3_move_3, by decide, by decide +kernel, rfl, dX3_move_29⟩
theorem sX3_move_34 : zk_gs cX3_move wsX3_move RX3 34 3 2 := ⟨RX3, TX3, 6, 28, rfl, iwX3_move_3, by decide, by decide +kernel, rfl, dX3_move_34⟩
theorem sX3_move_41 : zk_gs cX3_move wsX3_move RX3 41 3 3 := ⟨RX3, TX3, 6, 31, rfl, iwX3_move_3, by decide, by decide +kernel, rfl, dX3_move_41⟩
theorem sX3_move_46 : zk_gs cX3_move wsX3_move RX3 46 3 3 := ⟨RX3, TX3, 6, 31, rfl, iwX3_move_3, by decide, by decide +kernel, rfl, dX3_move_46⟩
theorem sX3_move_53 : zk_gs cX3_move wsX3_move RX3 53 3 4 := ⟨RX3, TX3, 6, 34, rfl, iwX3_move_3, by decide, by decide +kernel, rfl, dX3_move_53⟩
theorem sX3_move_58 : zk_gs cX3_move wsX3_move RX3 58 3 4 := ⟨RX3, TX3, 6, 34, rfl, iwX3_move_3, by decide, by decide +kernel, rfl, dX3_move_58⟩
theorem hdX4_boil : yX4_boil.cls = RX4 ∧ yX4_boil.cls ≠ "java/lang/invoke/MethodHandle" ∧ yX4_boil.cls ≠ "java/lang/invoke/VarHandle" ∧ (parseMethodDescriptor yX4_boil.desc).map (fun d => d.parameters.length) = some 2 := by decide +kernel
theorem iwX4_boil_2 : ∀ w ∈ wsX20, w ∈ wsX4_boil := fun _ h => List.mem_cons_of_mem _ (List.mem_append_left _ (List.mem_append_right _ h))
theorem iwX4_boil_4 : ∀ w ∈ wsX40, w ∈ wsX4_boil := fun _ h => List.mem_cons_of_mem _ (List.mem_append_left _ (List.mem_append_left _ (List.mem_append_right _ h)))
theorem iwX4_boil_5 : ∀ w ∈ wsX50, w ∈ wsX4_boil := fun _ h => List.mem_cons_of_mem _ (List.mem_append_left _ (List.mem_append_left _ (List.mem_append_left _ (List.mem_append_right _ h))))
theorem sX4_boil_1 : zk_gs cX4_boil wsX4_boil RX4 1 5 0 := ⟨RX5, TX5, 6, 53, rfl, iwX4_boil_5, by decide, by decide +kernel, rfl, dX4_boil_1⟩
theorem sX4_boil_8 : zk_gs cX4_boil wsX4_boil RX4 8 4 0 := ⟨RX4, TX4, 10, 12, rfl, iwX4_boil_4, by decide, by decide +kernel, rfl, dX4_boil_8⟩
theorem sX4_boil_14 : zk_gs cX4_boil wsX4_boil RX4 14 5 0 := ⟨RX5, TX5, 6, 53, rfl, iwX4_boil_5, by decide, by decide +kernel, rfl, dX4_boil_14⟩
theorem sX4_boil_21 : zk_gs cX4_boil wsX4_boil RX4 21 5 0 := ⟨RX5, TX5, 6, 53, rfl, iwX4_boil_5, by decide, by decide +kernel, rfl, dX4_boil_21⟩
theorem sX4_boil_27 : zk_gs cX4_boil wsX4_boil RX4 27 5 0 := ⟨RX5, TX5, 6, 53, rfl, iwX4_boil_5, by decide, by decide +kernel, rfl, dX4_boil_27⟩
theorem sX4_boil_36 : zk_gs cX4_boil wsX4_boil RX4 36 4 0 := ⟨RX4, TX4, 10, 12, rfl, iwX4_boil_4, by decide, by decide +kernel, rfl, dX4_boil_36⟩
theorem sX4_boil_44 : zk_gs cX4_boil wsX4_boil RX4 44 4 1 := ⟨RX4, TX4, 10, 18, rfl, iwX4_boil_4, by decide, by decide +kernel, rfl, dX4_boil_44⟩
theorem sX4_boil_48 : zk_gs cX4_boil wsX4_boil RX4 48 4 0 := ⟨RX4, TX4, 10, 12, rfl, iwX4_boil_4, by decide, by decide +kernel, rfl, dX4_boil_48⟩
theorem sX4_boil_55 : zk_gs cX4_boil wsX4_boil RX4 55 4 6 := ⟨RX4, TX4, 10, 38, rfl, iwX4_boil_4, by decide, by decide +kernel, rfl, dX4_boil_55⟩
theorem sX4_boil_72 : zk_gs cX4_boil wsX4_boil RX4 72 4 1 := ⟨RX4, TX4, 10, 18, rfl, iwX4_boil_4, by decide, by decide +kernel, rfl, dX4_boil_72⟩
theorem sX4_boil_75 : zk_gs cX4_boil wsX4_boil RX4 75 2 0 := ⟨RX2, TX2, 4, 72, rfl, iwX4_boil_2, by decide, by decide +kernel, rfl, dX4_boil_75⟩
theorem sX4_boil_84 : zk_gs cX4_boil wsX4_boil RX4 84 4 1 := ⟨RX4, TX4, 10, 18, rfl, iwX4_boil_4, by decide, by decide +kernel, rfl, dX4_boil_84⟩
theorem sX4_boil_99 : zk_gs cX4_boil wsX4_boil RX4 99 5 2 := ⟨RX5, TX5, 6, 82, rfl, iwX4_boil_5, by decide, by decide +kernel, rfl, dX4_boil_99⟩
theorem sX4_boil_109 : zk_gs cX4_boil wsX4_boil RX4 109 4 7 := ⟨RX4, TX4, 10, 42, rfl, iwX4_boil_4, by decide, by decide +kernel, rfl, dX4_boil_109⟩
theorem sX4_boil_121 : zk_gs cX4_boil wsX4_boil RX4 121 5 2 := ⟨RX5, TX5, 6, 82, rfl, iwX4_boil_5, by decide, by decide +kernel, rfl, dX4_boil_121⟩
theorem sX4_boil_127 : zk_gs cX4_boil wsX4_boil RX4 127 5 2 := ⟨RX5, TX5, 6, 82, rfl, iwX4_boil_5, by decide, by decide +kernel, rfl, dX4_boil_127⟩
theorem hdX4_cutAt : yX4_cutAt.cls = RX4 ∧ yX4_cutAt.cls ≠ "java/lang/invoke/MethodHandle" ∧ yX4_cutAt.cls ≠ "java/lang/invoke/VarHandle" ∧ (parseMethodDescriptor yX4_cutAt.desc).map (fun d => d.parameters.length) = some 2 := by decide +kernel
theorem iwX4_cutAt_3 : ∀ w ∈ wsX30, w ∈ wsX4_cutAt := fun _ h => List.mem_cons_of_mem _ (List.mem_append_left _ (List.mem_append_right _ h))
theorem iwX4_cutAt_4 : ∀ w ∈ wsX40, w ∈ wsX4_cutAt := fun _ h => List.mem_cons_of_mem _ (List.mem_append_left _ (List.mem_append_left _ (List.mem_append_right _ h)))
theorem sX4_cutAt_3 : zk_gs cX4_cutAt wsX4_cutAt RX4 3 4 6 := ⟨RX4, TX4, 10, 38, rfl, iwX4_cutAt_4, by decide, by decide +kernel, rfl, dX4_cutAt_3⟩
theorem sX4_cutAt_6 : zk_gs cX4_cutAt wsX4_cutAt RX4 6 3 5 := ⟨RX3, TX3, 6, 113, rfl, iwX4_cutAt_3, by decide, by decide +kernel, rfl, dX4_cutAt_6⟩
theorem sX4_cutAt_12 : zk_ps cX4_cutAt wsX4_cutAt RX4 12 4 8 := ⟨RX4, TX4, 10, 46, tyX4, rfl, iwX4_cutAt_4, tyX4_ok, nmX4, by decide, by decide +kernel, rfl, rfl, by decide +kernel, dX4_cutAt_12⟩
theorem sX4_cutAt_17 : zk_gs cX4_cutAt wsX4_cutAt RX4 17 4 8 := ⟨RX4, TX4, 10, 46, rfl, iwX4_cutAt_4, by decide, by decide +kernel, rfl, dX4_cutAt_17⟩
theorem sX4_cutAt_20 : zk_ps cX4_cutAt wsX4_cutAt RX4 20 4 9 := ⟨RX4, TX4, 10, 50, tyX4, rfl, iwX4_cutAt_4, tyX4_ok, nmX4, by decide, by decide +kernel, rfl, rfl, by decide +kernel, dX4_cutAt_20⟩
theorem sX4_cutAt_24 : zk_gs cX4_cutAt wsX4_cutAt RX4 24 4 9 := ⟨RX4, TX4, 10, 50, rfl, iwX4_cutAt_4, by decide, by decide +kernel, rfl, dX4_cutAt_24⟩
theorem sX4_cutAt_28 : zk_gs cX4_cutAt wsX4_cutAt RX4 28 4 6 := ⟨RX4, TX4, 10, 38, rfl, iwX4_cutAt_4, by decide, by decide +kernel, rfl, dX4_cutAt_28⟩
theorem sX4_cutAt_31 : zk_gs cX4_cutAt wsX4_cutAt RX4 31 3 5 := ⟨RX3, TX3, 6, 113, rfl, iwX4_cutAt_3, by decide, by decide +kernel, rfl, dX4_cutAt_31⟩
theorem sX4_cutAt_38 : zk_gs cX4_cutAt wsX4_cutAt RX4 38 4 9 := ⟨RX4, TX4, 10, 50, rfl, iwX4_cutAt_4, by decide, by decide +kernel, rfl, dX4_cutAt_38⟩
theorem sX4_cutAt_47 : zk_gs cX4_cutAt wsX4_cutAt RX4 47 4 7 := ⟨RX4, TX4, 10, 42, rfl, iwX4_cutAt_4, by decide, by decide +kernel, rfl, dX4_cutAt_47⟩
theorem sX4_cutAt_51 : zk_gs cX4_cutAt wsX4_cutAt RX4 51 4 9 := ⟨RX4, TX4, 10, 50, rfl, iwX4_cutAt_4, by decide, by decide +kernel, rfl, dX4_cutAt_51⟩
theorem sX4_cutAt_61 : zk_gs cX4_cutAt wsX4_cutAt RX4 61 4 9 := ⟨RX4, TX4, 10, 50, rfl, iwX4_cutAt_4, by decide, by decide +kernel, rfl, dX4_cutAt_61⟩
theorem sX4_cutAt_66 : zk_ps cX4_cutAt wsX4_cutAt RX4 66 4 9 := ⟨RX4, TX4, 10, 50, tyX4, rfl, iwX4_cutAt_4, tyX4_ok, nmX4, by decide, by decide +kernel, rfl, rfl, by decide +kernel, dX4_cutAt_66⟩
theorem sX4_cutAt_74 : zk_gs cX4_cutAt wsX4_cutAt RX4 74 4 2 := ⟨RX4, TX4, 10, 21, rfl, iwX4_cutAt_4, by decide, by decide +kernel, rfl, dX4_cutAt_74⟩
theorem sX4_cutAt_79 : zk_gs cX4_cutAt wsX4_cutAt RX4 79 4 8 := ⟨RX4, TX4, 10, 46, rfl, iwX4_cutAt_4, by decide, by decide +kernel, rfl, dX4_cutAt_79⟩
theorem sX4_cutAt_87 : zk_gs cX4_cutAt wsX4_cutAt RX4 87 4 3 := ⟨RX4, TX4, 10, 24, rfl, iwX4_cutAt_4, by decide, by decide +kernel, rfl, dX4_cutAt_87⟩
theorem sX4_cutAt_91 : zk_gs cX4_cutAt wsX4_cutAt RX4 91 4 8 := ⟨RX4, TX4, 10, 46, rfl, iwX4_cutAt_4, by decide, by decide +kernel, rfl, dX4_cutAt_91⟩
theorem sX4_cutAt_95 : zk_gs cX4_cutAt wsX4_cutAt RX4 95 4 9 := ⟨RX4, TX4, 10, 50, rfl, iwX4_cutAt_4, by decide, by decide +kernel, rfl, dX4_cutAt_95⟩
theorem sX4_cutAt_103 : zk_gs cX4_cutAt wsX4_cutAt RX4 103 4 4 := ⟨RX4, TX4, 10, 27, rfl, iwX4_cutAt_4, by decide, by decide +kernel, rfl, dX4_cutAt_103⟩
theorem sX4_cutAt_107 : zk_gs cX4_cutAt wsX4_cutAt RX4 107 4 9 := ⟨RX4, TX4, 10, 50, rfl, iwX4_cutAt_4, by decide, by decide +kernel, rfl, dX4_cutAt_107⟩
theorem sX4_cutAt_111 : zk_gs cX4_cutAt wsX4_cutAt RX4 111 4 6 := ⟨RX4, TX4, 10, 38, rfl, iwX4_cutAt_4, by decide, by decide +kernel, rfl, dX4_cutAt_111⟩
theorem sX4_cutAt_114 : zk_gs cX4_cutAt wsX4_cutAt RX4 114 3 5 := ⟨RX3, TX3, 6, 113, rfl, iwX4_cutAt_3, by decide, by decide +kernel, rfl, dX4_cutAt_114⟩
theorem hdX4_gather : yX4_gather.cls = RX4 ∧ yX4_gather.cls ≠ "java/lang/invoke/MethodHandle" ∧ yX4_gather.cls ≠ "java/lang/invoke/VarHandle" ∧ (parseMethodDescriptor yX4_gather.desc).map (fun d => d.parameters.length) = some 3 := by decide +kernel
theorem iwX4_gather_4 : ∀ w ∈ wsX40, w ∈ wsX4_gather := fun _ h => List.mem_cons_of_mem _ (List.mem_append_left _ (List.mem_append_left _ (List.mem_append_right _ h)))
theorem sX4_gather_14 : zk_gs cX4_gather wsX4_gather RX4 14 4 6 := ⟨RX4, TX4, 10, 38, rfl, iwX4_gather_4, by decide, by decide +kernel, rfl, dX4_gather_14⟩
theorem sX4_gather_20 : zk_gs cX4_gather wsX4_gather RX4 20 4 5 := ⟨RX4, TX4, 10, 30, rfl, iwX4_gather_4, by decide, by decide +kernel, rfl, dX4_gather_20⟩
theorem sX4_gather_28 : zk_gs cX4_gather wsX4_gather RX4 28 4 5 := ⟨RX4, TX4, 10, 30, rfl, iwX4_gather_4, by decide, by decide +kernel, rfl, dX4_gather_28⟩
theorem hdX4_init : yX4_init.cls = RX4 ∧ yX4_init.cls ≠ "java/lang/invoke/MethodHandle" ∧ yX4_init.cls ≠ "java/lang/invoke/VarHandle" ∧ (parseMethodDescriptor yX4_init.desc).map (fun d => d.parameters.length) = some 0 := by decide +kernel
theorem iwX4_init_4 : ∀ w ∈ wsX40, w ∈ wsX4_init := fun _ h => List.mem_cons_of_mem _ (List.mem_append_left _ (List.mem_append_right _ h))
theorem sX4_init_12 : zk_pf cX4_init wsX4_init RX4 12 4 0 (.object "PotCuts$Liquid") := ⟨RX4, TX4, 10, 12, tyX4, rfl, iwX4_init_4, tyX4_ok, nmX4, by decide, by decide +kernel, rfl, rfl, rfl, by decide +kernel, dX4_init_12⟩
theorem sX4_init_23 : zk_pf cX4_init wsX4_init RX4 23 4 1 (.object "PotCuts$Liquid") := ⟨RX4, TX4, 10, 18, tyX4, rfl, iwX4_init_4, tyX4_ok, nmX4, by decide, by decide +kernel, rfl, rfl, rfl, by decide +kernel, dX4_init_23⟩
theorem sX4_init_34 : zk_pf cX4_init wsX4_init RX4 34 4 2 (.object "PotCuts$Liquid") := ⟨RX4, TX4, 10, 21, tyX4, rfl, iwX4_init_4, tyX4_ok, nmX4, by decide, by decide +kernel, rfl, rfl, rfl, by decide +kernel, dX4_init_34⟩
theorem sX4_init_45 : zk_pf cX4_init wsX4_init RX4 45 4 3 (.object "PotCuts$Liquid") := ⟨RX4, TX4, 10, 24, tyX4, rfl, iwX4_init_4, tyX4_ok, nmX4, by decide, by decide +kernel, rfl, rfl, rfl, by decide +kernel, dX4_init_45⟩
theorem sX4_init_56 : zk_pf cX4_init wsX4_init RX4 56 4 4 (.object "PotCuts$Liquid") := ⟨RX4, TX4, 10, 27, tyX4, rfl, iwX4_init_4, tyX4_ok, nmX4, by decide, by decide +kernel, rfl, rfl, rfl, by decide +kernel, dX4_init_56⟩
theorem sX4_init_67 : zk_pf cX4_init wsX4_init RX4 67 4 5 (.object "PotCuts$Liquid") := ⟨RX4, TX4, 10, 30, tyX4, rfl, iwX4_init_4, tyX4_ok, nmX4, by decide, by decide +kernel, rfl, rfl, rfl, by decide +kernel, dX4_init_67⟩
theorem sX4_init_80 : zk_pf cX4_init wsX4_init RX4 80 4 6 (.object "PotCuts$Row") := ⟨RX4, TX4, 10, 38, tyX4, rfl, iwX4_init_4, tyX4_ok, nmX4, by decide, by decide +kernel, rfl, rfl, rfl, by decide +kernel, dX4_init_80⟩
theorem sX4_init_88 : zk_pf cX4_init wsX4_init RX4 88 4 7 (.array .int) := ⟨RX4, TX4, 10, 42, tyX4, rfl, iwX4_init_4, tyX4_ok, nmX4, by decide, by decide +kernel, rfl, rfl, rfl, by decide +kernel, dX4_init_88⟩
theorem sX4_init_93 : zk_ps cX4_init wsX4_init RX4 93 4 8 := ⟨RX4, TX4, 10, 46, tyX4, rfl, iwX4_init_4, tyX4_ok, nmX4, by decide, by decide +kernel, rfl, rfl, by decide +kernel, dX4_init_93⟩
theorem sX4_init_98 : zk_ps cX4_init wsX4_init RX4 98 4 9 := ⟨RX4, TX4, 10, 50, tyX4, rfl, iwX4_init_4, tyX4_ok, nmX4, by decide, by decide +kernel, rfl, rfl, by decide +kernel, dX4_init_98⟩
theorem hdX4_keepInto : yX4_keepInto.cls = RX4 ∧ yX4_keepInto.cls ≠ "java/lang/invoke/MethodHandle" ∧ yX4_keepInto.cls ≠ "java/lang/invoke/VarHandle" ∧ (parseMethodDescriptor yX4_keepInto.desc).map (fun d => d.parameters.length) = some 1 := by decide +kernel
theorem iwX4_keepInto_4 : ∀ w ∈ wsX40, w ∈ wsX4_keepInto := fun _ h => List.mem_cons_of_mem _ (List.mem_append_left _ (List.mem_append_right _ h))
theorem sX4_keepInto_2 : zk_gs cX4_keepInto wsX4_keepInto RX4 2 4 2 := ⟨RX4, TX4, 10, 21, rfl, iwX4_keepInto_4, by decide, by decide +kernel, rfl, dX4_keepInto_2⟩
theorem sX4_keepInto_10 : zk_gs cX4_keepInto wsX4_keepInto RX4 10 4 4 := ⟨RX4, TX4, 10, 27, rfl, iwX4_keepInto_4, by decide, by decide +kernel, rfl, dX4_keepInto_10⟩
theorem hdX4_letOneOver : yX4_letOneOver.cls = RX4 ∧ yX4_letOneOver.cls ≠ "java/lang/invoke/MethodHandle" ∧ yX4_letOneOver.cls ≠ "java/lang/invoke/VarHandle" ∧ (parseMethodDescriptor yX4_letOneOver.desc).map (fun d => d.parameters.length) = some 3 := by decide +kernel
theorem iwX4_letOneOver_2 : ∀ w ∈ wsX20, w ∈ wsX4_letOneOver := fun _ h => List.mem_cons_of_mem _ (List.mem_append_left _ (List.mem_append_right _ h))
theorem iwX4_letOneOver_4 : ∀ w ∈ wsX40, w ∈ wsX4_letOneOver := fun _ h => List.mem_cons_of_mem _ (List.mem_append_left _ (List.mem_append_left _ (List.mem_append_right _ h)))
theorem sX4_letOneOver_2 : zk_gs cX4_letOneOver wsX4_letOneOver RX4 2 4 1 := ⟨RX4, TX4, 10, 18, rfl, iwX4_letOneOver_4, by decide, by decide +kernel, rfl, dX4_letOneOver_2⟩
theorem sX4_letOneOver_5 : zk_gs cX4_letOneOver wsX4_letOneOver RX4 5 2 1 := ⟨RX2, TX2, 4, 89, rfl, iwX4_letOneOver_2, by decide, by decide +kernel, rfl, dX4_letOneOver_5⟩
theorem sX4_letOneOver_14 : zk_gs cX4_letOneOver wsX4_letOneOver RX4 14 4 1 := ⟨RX4, TX4, 10, 18, rfl, iwX4_letOneOver_4, by decide, by decide +kernel, rfl, dX4_letOneOver_14⟩
theorem sX4_letOneOver_17 : zk_gs cX4_letOneOver wsX4_letOneOver RX4 17 2 2 := ⟨RX2, TX2, 4, 98, rfl, iwX4_letOneOver_2, by decide, by decide +kernel, rfl, dX4_letOneOver_17⟩
theorem sX4_letOneOver_28 : zk_gs cX4_letOneOver wsX4_letOneOver RX4 28 4 1 := ⟨RX4, TX4, 10, 18, rfl, iwX4_letOneOver_4, by decide, by decide +kernel, rfl, dX4_letOneOver_28⟩
theorem sX4_letOneOver_31 : zk_gs cX4_letOneOver wsX4_letOneOver RX4 31 2 2 := ⟨RX2, TX2, 4, 98, rfl, iwX4_letOneOver_2, by decide, by decide +kernel, rfl, dX4_letOneOver_31⟩
theorem sX4_letOneOver_40 : zk_gs cX4_letOneOver wsX4_letOneOver RX4 40 4 1 := ⟨RX4, TX4, 10, 18, rfl, iwX4_letOneOver_4, by decide, by decide +kernel, rfl, dX4_letOneOver_40⟩
theorem sX4_letOneOver_43 : zk_gs cX4_letOneOver wsX4_letOneOver RX4 43 2 3 := ⟨RX2, TX2, 4, 101, rfl, iwX4_letOneOver_2, by decide, by decide +kernel, rfl, dX4_letOneOver_43⟩
theorem sX4_letOneOver_63 : zk_gs cX4_letOneOver wsX4_letOneOver RX4 63 4 5 := ⟨RX4, TX4, 10, 30, rfl, iwX4_letOneOver_4, by decide, by decide +kernel, rfl, dX4_letOneOver_63⟩
theorem sX4_letOneOver_77 : zk_gs cX4_letOneOver wsX4_letOneOver RX4 77 4 1 := ⟨RX4, TX4, 10, 18, rfl, iwX4_letOneOver_4, by decide, by decide +kernel, rfl, dX4_letOneOver_77⟩
theorem sX4_letOneOver_81 : zk_gs cX4_letOneOver wsX4_letOneOver RX4 81 4 5 := ⟨RX4, TX4, 10, 30, rfl, iwX4_letOneOver_4, by decide, by decide +kernel, rfl, dX4_letOneOver_81⟩
theorem sX4_letOneOver_88 : zk_gs cX4_letOneOver wsX4_letOneOver RX4 88 4 6 := ⟨RX4, TX4, 10, 38, rfl, iwX4_letOneOver_4, by decide, by decide +kernel, rfl, dX4_letOneOver_88⟩
theorem sX4_letOneOver_92 : zk_gs cX4_letOneOver wsX4_letOneOver RX4 92 4 5 := ⟨RX4, TX4, 10, 30, rfl, iwX4_letOneOver_4, by decide, by decide +kernel, rfl, dX4_letOneOver_92⟩
theorem hdX4_liquidOf : yX4_liquidOf.cls = RX4 ∧ yX4_liquidOf.cls ≠ "java/lang/invoke/MethodHandle" ∧ yX4_liquidOf.cls ≠ "java/lang/invoke/VarHandle" ∧ (parseMethodDescriptor yX4_liquidOf.desc).map (fun d => d.parameters.length) = some 1 := by decide +kernel
theorem iwX4_liquidOf_4 : ∀ w ∈ wsX40, w ∈ wsX4_liquidOf := fun _ h => List.mem_cons_of_mem _ (List.mem_append_right _ h)
theorem sX4_liquidOf_33 : zk_gs cX4_liquidOf wsX4_liquidOf RX4 33 4 0 := ⟨RX4, TX4, 10, 12, rfl, iwX4_liquidOf_4, by decide, by decide +kernel, rfl, dX4_liquidOf_33⟩
theorem sX4_liquidOf_38 : zk_gs cX4_liquidOf wsX4_liquidOf RX4 38 4 2 := ⟨RX4, TX4, 10, 21, rfl, iwX4_liquidOf_4, by decide, by decide +kernel, rfl, dX4_liquidOf_38⟩
theorem sX4_liquidOf_43 : zk_gs cX4_liquidOf wsX4_liquidOf RX4 43 4 3 := ⟨RX4, TX4, 10, 24, rfl, iwX4_liquidOf_4, by decide, by decide +kernel, rfl, dX4_liquidOf_43⟩
theorem sX4_liquidOf_48 : zk_gs cX4_liquidOf wsX4_liquidOf RX4 48 4 4 := ⟨RX4, TX4, 10, 27, rfl, iwX4_liquidOf_4, by decide, by decide +kernel, rfl, dX4_liquidOf_48⟩
theorem sX4_liquidOf_53 : zk_gs cX4_liquidOf wsX4_liquidOf RX4 53 4 1 := ⟨RX4, TX4, 10, 18, rfl, iwX4_liquidOf_4, by decide, by decide +kernel, rfl, dX4_liquidOf_53⟩
theorem hdX4_tellLitre : yX4_tellLitre.cls = RX4 ∧ yX4_tellLitre.cls ≠ "java/lang/invoke/MethodHandle" ∧ yX4_tellLitre.cls ≠ "java/lang/invoke/VarHandle" ∧ (parseMethodDescriptor yX4_tellLitre.desc).map (fun d => d.parameters.length) = some 2 := by decide +kernel
theorem iwX4_tellLitre_4 : ∀ w ∈ wsX40, w ∈ wsX4_tellLitre := fun _ h => List.mem_cons_of_mem _ (List.mem_append_left _ (List.mem_append_left _ (List.mem_append_right _ h)))
theorem sX4_tellLitre_7 : zk_gs cX4_tellLitre wsX4_tellLitre RX4 7 4 8 := ⟨RX4, TX4, 10, 46, rfl, iwX4_tellLitre_4, by decide, by decide +kernel, rfl, dX4_tellLitre_7⟩
theorem sX4_tellLitre_19 : zk_gs cX4_tellLitre wsX4_tellLitre RX4 19 4 9 := ⟨RX4, TX4, 10, 50, rfl, iwX4_tellLitre_4, by decide, by decide +kernel, rfl, dX4_tellLitre_19⟩
theorem sX4_tellLitre_46 : zk_gs cX4_tellLitre wsX4_tellLitre RX4 46 4 7 := ⟨RX4, TX4, 10, 42, rfl, iwX4_tellLitre_4, by decide, by decide +kernel, rfl, dX4_tellLitre_46⟩
theorem sX4_tellLitre_57 : zk_gs cX4_tellLitre wsX4_tellLitre RX4 57 4 6 := ⟨RX4, TX4, 10, 38, rfl, iwX4_tellLitre_4, by decide, by decide +kernel, rfl, dX4_tellLitre_57⟩
theorem sX4_tellLitre_62 : zk_gs cX4_tellLitre wsX4_tellLitre RX4 62 4 5 := ⟨RX4, TX4, 10, 30, rfl, iwX4_tellLitre_4, by decide, by decide +kernel, rfl, dX4_tellLitre_62⟩
theorem sX4_tellLitre_69 : zk_gs cX4_tellLitre wsX4_tellLitre RX4 69 4 5 := ⟨RX4, TX4, 10, 30, rfl, iwX4_tellLitre_4, by decide, by decide +kernel, rfl, dX4_tellLitre_69⟩
theorem hdX5_become : yX5_become.cls = RX5 ∧ yX5_become.cls ≠ "java/lang/invoke/MethodHandle" ∧ yX5_become.cls ≠ "java/lang/invoke/VarHandle" ∧ (parseMethodDescriptor yX5_become.desc).map (fun d => d.parameters.length) = some 1 := by decide +kernel
theorem iwX5_become_5 : ∀ w ∈ wsX50, w ∈ wsX5_become := fun _ h => List.mem_cons_of_mem _ (List.mem_append_left _ (List.mem_append_left _ (List.mem_append_right _ h)))
theorem sX5_become_1 : zk_gs cX5_become wsX5_become RX5 1 5 0 := ⟨RX5, TX5, 6, 18, rfl, iwX5_become_5, by decide, by decide +kernel, rfl, dX5_become_1⟩
theorem sX5_become_6 : zk_gs cX5_become wsX5_become RX5 6 5 0 := ⟨RX5, TX5, 6, 18, rfl, iwX5_become_5, by decide, by decide +kernel, rfl, dX5_become_6⟩
theorem sX5_become_15 : zk_gs cX5_become wsX5_become RX5 15 5 1 := ⟨RX5, TX5, 6, 26, rfl, iwX5_become_5, by decide, by decide +kernel, rfl, dX5_become_15⟩
theorem sX5_become_20 : zk_gs cX5_become wsX5_become RX5 20 5 1 := ⟨RX5, TX5, 6, 26, rfl, iwX5_become_5, by decide, by decide +kernel, rfl, dX5_become_20⟩
theorem sX5_become_30 : zk_gs cX5_become wsX5_become RX5 30 5 2 := ⟨RX5, TX5, 6, 32, rfl, iwX5_become_5, by decide, by decide +kernel, rfl, dX5_become_30⟩
theorem sX5_become_35 : zk_gs cX5_become wsX5_become RX5 35 5 2 := ⟨RX5, TX5, 6, 32, rfl, iwX5_become_5, by decide, by decide +kernel, rfl, dX5_become_35⟩
theorem sX5_become_45 : zk_gs cX5_become wsX5_become RX5 45 5 3 := ⟨RX5, TX5, 6, 38, rfl, iwX5_become_5, by decide, by decide +kernel, rfl, dX5_become_45⟩
theorem sX5_become_49 : zk_gs cX5_become wsX5_become RX5 49 5 3 := ⟨RX5, TX5, 6, 38, rfl, iwX5_become_5, by decide, by decide +kernel, rfl, dX5_become_49⟩
theorem sX5_become_56 : zk_gs cX5_become wsX5_become RX5 56 5 4 := ⟨RX5, TX5, 6, 47, rfl, iwX5_become_5, by decide, by decide +kernel, rfl, dX5_become_56⟩
theorem sX5_become_60 : zk_gs cX5_become wsX5_become RX5 60 5 4 := ⟨RX5, TX5, 6, 47, rfl, iwX5_become_5, by decide, by decide +kernel, rfl, dX5_become_60⟩
theorem sX5_become_68 : zk_gs cX5_become wsX5_become RX5 68 5 5 := ⟨RX5, TX5, 6, 51, rfl, iwX5_become_5, by decide, by decide +kernel, rfl, dX5_become_68⟩
theorem sX5_become_71 : zk_ps cX5_become wsX5_become RX5 71 5 5 := ⟨RX5, TX5, 6, 51, tyX5, rfl, iwX5_become_5, tyX5_ok, nmX5, by decide, by decide +kernel, rfl, rfl, by decide +kernel, dX5_become_71⟩
theorem hdX5_init : yX5_init.cls = RX5 ∧ yX5_init.cls ≠ "java/lang/invoke/MethodHandle" ∧ yX5_init.cls ≠ "java/lang/invoke/VarHandle" ∧ (parseMethodDescriptor yX5_init.desc).map (fun d => d.parameters.length) = some 0 := by decide +kernel
theorem iwX5_init_5 : ∀ w ∈ wsX50, w ∈ wsX5_init := fun _ h => List.mem_cons_of_mem _ (List.mem_append_left _ (List.mem_append_left _ (List.mem_append_right _ h)))
theorem sX5_init_14 : zk_pf cX5_init wsX5_init RX5 14 5 0 (.array .int) := ⟨RX5, TX5, 6, 18, tyX5, rfl, iwX5_init_5, tyX5_ok, nmX5, by decide, by decide +kernel, rfl, rfl, rfl, by decide +kernel, dX5_init_14⟩
theorem sX5_init_27 : zk_pf cX5_init wsX5_init RX5 27 5 1 (.array .int) := ⟨RX5, TX5, 6, 26, tyX5, rfl, iwX5_init_5, tyX5_ok, nmX5, by decide, by decide +kernel, rfl, rfl, rfl, by decide +kernel, dX5_init_27⟩
theorem sX5_init_40 : zk_pf cX5_init wsX5_init RX5 40 5 2 (.array .int) := ⟨RX5, TX5, 6, 32, tyX5, rfl, iwX5_init_5, tyX5_ok, nmX5, by decide, by decide +kernel, rfl, rfl, rfl, by decide +kernel, dX5_init_40⟩
theorem sX5_init_51 : zk_pf cX5_init wsX5_init RX5 51 5 3 (.object "PotCuts$Liquid") := ⟨RX5, TX5, 6, 38, tyX5, rfl, iwX5_init_5, tyX5_ok, nmX5, by decide, by decide +kernel, rfl, rfl, rfl, by decide +kernel, dX5_init_51⟩
theorem sX5_init_64 : zk_pf cX5_init wsX5_init RX5 64 5 4 (.object "PotCuts$Row") := ⟨RX5, TX5, 6, 47, tyX5, rfl, iwX5_init_5, tyX5_ok, nmX5, by decide, by decide +kernel, rfl, rfl, rfl, by decide +kernel, dX5_init_64⟩
theorem sX5_init_69 : zk_ps cX5_init wsX5_init RX5 69 5 5 := ⟨RX5, TX5, 6, 51, tyX5, rfl, iwX5_init_5, tyX5_ok, nmX5, by decide, by decide +kernel, rfl, rfl, by decide +kernel, dX5_init_69⟩
theorem hdX5_overOf : yX5_overOf.cls = RX5 ∧ yX5_overOf.cls ≠ "java/lang/invoke/MethodHandle" ∧ yX5_overOf.cls ≠ "java/lang/invoke/VarHandle" ∧ (parseMethodDescriptor yX5_overOf.desc).map (fun d => d.parameters.length) = some 1 := by decide +kernel
theorem iwX5_overOf_5 : ∀ w ∈ wsX50, w ∈ wsX5_overOf := fun _ h => List.mem_cons_of_mem _ (List.mem_append_right _ h)
theorem sX5_overOf_24 : zk_gs cX5_overOf wsX5_overOf RX5 24 5 1 := ⟨RX5, TX5, 6, 26, rfl, iwX5_overOf_5, by decide, by decide +kernel, rfl, dX5_overOf_24⟩
theorem sX5_overOf_32 : zk_gs cX5_overOf wsX5_overOf RX5 32 5 1 := ⟨RX5, TX5, 6, 26, rfl, iwX5_overOf_5, by decide, by decide +kernel, rfl, dX5_overOf_32⟩
theorem sX5_overOf_38 : zk_gs cX5_overOf wsX5_overOf RX5 38 5 1 := ⟨RX5, TX5, 6, 26, rfl, iwX5_overOf_5, by decide, by decide +kernel, rfl, dX5_overOf_38⟩
theorem sX5_overOf_46 : zk_gs cX5_overOf wsX5_overOf RX5 46 5 1 := ⟨RX5, TX5, 6, 26, rfl, iwX5_overOf_5, by decide, by decide +kernel, rfl, dX5_overOf_46⟩
