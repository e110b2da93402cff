theorem hdX7_addLitres : yX7_addLitres.cls = RX7 ∧ yX7_addLitres.cls ≠ "java/lang/invoke/MethodHandle" ∧ yX7_addLitres.cls ≠ "java/lang/invoke/VarHandle" ∧ (parseMethodDescriptor yX7_addLitres.desc).map (fun d => d.parameters.length) = some 2 := by decide +kernel
theorem iwX7_addLitres_7 : ∀ w ∈ wsX70, w ∈ wsX7_addLitres := fun _ h => List.mem_cons_of_mem _ (List.mem_append_right _ h)
theorem sX7_addLitres_9 : zk_gs cX7_addLitres wsX7_addLitres RX7 9 7 4 := ⟨RX7, TX7, 15, 55, rfl, iwX7_addLitres_7, by decide, by decide +kernel, rfl, dX7_addLitres_9⟩
theorem sX7_addLitres_16 : zk_gs cX7_addLitres wsX7_addLitres RX7 16 7 7 := ⟨RX7, TX7, 15, 29, rfl, iwX7_addLitres_7, by decide, by decide +kernel, rfl, dX7_addLitres_16⟩
theorem sX7_addLitres_26 : zk_gs cX7_addLitres wsX7_addLitres RX7 26 7 7 := ⟨RX7, TX7, 15, 29, rfl, iwX7_addLitres_7, by decide, by decide +kernel, rfl, dX7_addLitres_26⟩
theorem sX7_addLitres_33 : zk_gs cX7_addLitres wsX7_addLitres RX7 33 7 3 := ⟨RX7, TX7, 15, 20, rfl, iwX7_addLitres_7, by decide, by decide +kernel, rfl, dX7_addLitres_33⟩
theorem sX7_addLitres_45 : zk_gs cX7_addLitres wsX7_addLitres RX7 45 7 7 := ⟨RX7, TX7, 15, 29, rfl, iwX7_addLitres_7, by decide, by decide +kernel, rfl, dX7_addLitres_45⟩
theorem sX7_addLitres_52 : zk_gs cX7_addLitres wsX7_addLitres RX7 52 7 3 := ⟨RX7, TX7, 15, 20, rfl, iwX7_addLitres_7, by decide, by decide +kernel, rfl, dX7_addLitres_52⟩
theorem sX7_addLitres_64 : zk_gs cX7_addLitres wsX7_addLitres RX7 64 7 7 := ⟨RX7, TX7, 15, 29, rfl, iwX7_addLitres_7, by decide, by decide +kernel, rfl, dX7_addLitres_64⟩
theorem sX7_addLitres_71 : zk_gs cX7_addLitres wsX7_addLitres RX7 71 7 3 := ⟨RX7, TX7, 15, 20, rfl, iwX7_addLitres_7, by decide, by decide +kernel, rfl, dX7_addLitres_71⟩
theorem hdX7_areAlike : yX7_areAlike.cls = RX7 ∧ yX7_areAlike.cls ≠ "java/lang/invoke/MethodHandle" ∧ yX7_areAlike.cls ≠ "java/lang/invoke/VarHandle" ∧ (parseMethodDescriptor yX7_areAlike.desc).map (fun d => d.parameters.length) = some 2 := by decide +kernel
theorem iwX7_areAlike_7 : ∀ w ∈ wsX70, w ∈ wsX7_areAlike := fun _ h => List.mem_cons_of_mem _ (List.mem_append_right _ h)
theorem sX7_areAlike_16 : zk_gs cX7_areAlike wsX7_areAlike RX7 16 7 8 := ⟨RX7, TX7, 15, 32, rfl, iwX7_areAlike_7, by decide, by decide +kernel, rfl, dX7_areAlike_16⟩
theorem sX7_areAlike_27 : zk_gs cX7_areAlike wsX7_areAlike RX7 27 7 8 := ⟨RX7, TX7, 15, 32, rfl, iwX7_areAlike_7, by decide, by decide +kernel, rfl, dX7_areAlike_27⟩
theorem hdX7_beginSum : yX7_beginSum.cls = RX7 ∧ yX7_beginSum.cls ≠ "java/lang/invoke/MethodHandle" ∧ yX7_beginSum.cls ≠ "java/lang/invoke/VarHandle" ∧ (parseMethodDescriptor yX7_beginSum.desc).map (fun d => d.parameters.length) = some 0 := by decide +kernel
theorem iwX7_beginSum_7 : ∀ w ∈ wsX70, w ∈ wsX7_beginSum := fun _ h => List.mem_cons_of_mem _ (List.mem_append_right _ h)
theorem sX7_beginSum_8 : zk_gs cX7_beginSum wsX7_beginSum RX7 8 7 7 := ⟨RX7, TX7, 15, 29, rfl, iwX7_beginSum_7, by decide, by decide +kernel, rfl, dX7_beginSum_8⟩
theorem hdX7_best : yX7_best.cls = RX7 ∧ yX7_best.cls ≠ "java/lang/invoke/MethodHandle" ∧ yX7_best.cls ≠ "java/lang/invoke/VarHandle" ∧ (parseMethodDescriptor yX7_best.desc).map (fun d => d.parameters.length) = some 1 := by decide +kernel
theorem iwX7_best_7 : ∀ w ∈ wsX70, w ∈ wsX7_best := fun _ h => List.mem_cons_of_mem _ (List.mem_append_right _ h)
theorem sX7_best_22 : zk_gs cX7_best wsX7_best RX7 22 7 14 := ⟨RX7, TX7, 15, 120, rfl, iwX7_best_7, by decide, by decide +kernel, rfl, dX7_best_22⟩
theorem sX7_best_27 : zk_gs cX7_best wsX7_best RX7 27 7 14 := ⟨RX7, TX7, 15, 120, rfl, iwX7_best_7, by decide, by decide +kernel, rfl, dX7_best_27⟩
theorem sX7_best_43 : zk_gs cX7_best wsX7_best RX7 43 7 10 := ⟨RX7, TX7, 15, 129, rfl, iwX7_best_7, by decide, by decide +kernel, rfl, dX7_best_43⟩
theorem sX7_best_55 : zk_gs cX7_best wsX7_best RX7 55 7 11 := ⟨RX7, TX7, 15, 132, rfl, iwX7_best_7, by decide, by decide +kernel, rfl, dX7_best_55⟩
theorem sX7_best_67 : zk_gs cX7_best wsX7_best RX7 67 7 12 := ⟨RX7, TX7, 15, 123, rfl, iwX7_best_7, by decide, by decide +kernel, rfl, dX7_best_67⟩
theorem sX7_best_74 : zk_gs cX7_best wsX7_best RX7 74 7 13 := ⟨RX7, TX7, 15, 126, rfl, iwX7_best_7, by decide, by decide +kernel, rfl, dX7_best_74⟩
theorem hdX7_cask : yX7_cask.cls = RX7 ∧ yX7_cask.cls ≠ "java/lang/invoke/MethodHandle" ∧ yX7_cask.cls ≠ "java/lang/invoke/VarHandle" ∧ (parseMethodDescriptor yX7_cask.desc).map (fun d => d.parameters.length) = some 2 := by decide +kernel
theorem iwX7_cask_7 : ∀ w ∈ wsX70, w ∈ wsX7_cask := fun _ h => List.mem_cons_of_mem _ (List.mem_append_right _ h)
theorem sX7_cask_45 : zk_gs cX7_cask wsX7_cask RX7 45 7 9 := ⟨RX7, TX7, 15, 35, rfl, iwX7_cask_7, by decide, by decide +kernel, rfl, dX7_cask_45⟩
theorem sX7_cask_58 : zk_gs cX7_cask wsX7_cask RX7 58 7 9 := ⟨RX7, TX7, 15, 35, rfl, iwX7_cask_7, by decide, by decide +kernel, rfl, dX7_cask_58⟩
theorem hdX7_count : yX7_count.cls = RX7 ∧ yX7_count.cls ≠ "java/lang/invoke/MethodHandle" ∧ yX7_count.cls ≠ "java/lang/invoke/VarHandle" ∧ (parseMethodDescriptor yX7_count.desc).map (fun d => d.parameters.length) = some 1 := by decide +kernel
theorem iwX7_count_7 : ∀ w ∈ wsX70, w ∈ wsX7_count := fun _ h => List.mem_cons_of_mem _ (List.mem_append_right _ h)
theorem sX7_count_11 : zk_gs cX7_count wsX7_count RX7 11 7 0 := ⟨RX7, TX7, 15, 7, rfl, iwX7_count_7, by decide, by decide +kernel, rfl, dX7_count_11⟩
theorem sX7_count_33 : zk_gs cX7_count wsX7_count RX7 33 7 0 := ⟨RX7, TX7, 15, 7, rfl, iwX7_count_7, by decide, by decide +kernel, rfl, dX7_count_33⟩
theorem sX7_count_57 : zk_gs cX7_count wsX7_count RX7 57 7 0 := ⟨RX7, TX7, 15, 7, rfl, iwX7_count_7, by decide, by decide +kernel, rfl, dX7_count_57⟩
theorem sX7_count_97 : zk_gs cX7_count wsX7_count RX7 97 7 0 := ⟨RX7, TX7, 15, 7, rfl, iwX7_count_7, by decide, by decide +kernel, rfl, dX7_count_97⟩
theorem sX7_count_105 : zk_gs cX7_count wsX7_count RX7 105 7 0 := ⟨RX7, TX7, 15, 7, rfl, iwX7_count_7, by decide, by decide +kernel, rfl, dX7_count_105⟩
theorem sX7_count_113 : zk_gs cX7_count wsX7_count RX7 113 7 2 := ⟨RX7, TX7, 15, 16, rfl, iwX7_count_7, by decide, by decide +kernel, rfl, dX7_count_113⟩
theorem sX7_count_127 : zk_gs cX7_count wsX7_count RX7 127 7 2 := ⟨RX7, TX7, 15, 16, rfl, iwX7_count_7, by decide, by decide +kernel, rfl, dX7_count_127⟩
theorem hdX7_dropPage : yX7_dropPage.cls = RX7 ∧ yX7_dropPage.cls ≠ "java/lang/invoke/MethodHandle" ∧ yX7_dropPage.cls ≠ "java/lang/invoke/VarHandle" ∧ (parseMethodDescriptor yX7_dropPage.desc).map (fun d => d.parameters.length) = some 1 := by decide +kernel
theorem iwX7_dropPage_7 : ∀ w ∈ wsX70, w ∈ wsX7_dropPage := fun _ h => List.mem_cons_of_mem _ (List.mem_append_right _ h)
theorem sX7_dropPage_16 : zk_gs cX7_dropPage wsX7_dropPage RX7 16 7 0 := ⟨RX7, TX7, 15, 7, rfl, iwX7_dropPage_7, by decide, by decide +kernel, rfl, dX7_dropPage_16⟩
theorem sX7_dropPage_21 : zk_gs cX7_dropPage wsX7_dropPage RX7 21 7 0 := ⟨RX7, TX7, 15, 7, rfl, iwX7_dropPage_7, by decide, by decide +kernel, rfl, dX7_dropPage_21⟩
theorem sX7_dropPage_36 : zk_gs cX7_dropPage wsX7_dropPage RX7 36 7 0 := ⟨RX7, TX7, 15, 7, rfl, iwX7_dropPage_7, by decide, by decide +kernel, rfl, dX7_dropPage_36⟩
theorem hdX7_earlier : yX7_earlier.cls = RX7 ∧ yX7_earlier.cls ≠ "java/lang/invoke/MethodHandle" ∧ yX7_earlier.cls ≠ "java/lang/invoke/VarHandle" ∧ (parseMethodDescriptor yX7_earlier.desc).map (fun d => d.parameters.length) = some 1 := by decide +kernel
theorem hdX7_findBest : yX7_findBest.cls = RX7 ∧ yX7_findBest.cls ≠ "java/lang/invoke/MethodHandle" ∧ yX7_findBest.cls ≠ "java/lang/invoke/VarHandle" ∧ (parseMethodDescriptor yX7_findBest.desc).map (fun d => d.parameters.length) = some 0 := by decide +kernel
theorem iwX7_findBest_7 : ∀ w ∈ wsX70, w ∈ wsX7_findBest := fun _ h => List.mem_cons_of_mem _ (List.mem_append_right _ h)
theorem sX7_findBest_6 : zk_ps cX7_findBest wsX7_findBest RX7 6 7 14 := ⟨RX7, TX7, 15, 120, tyX7, rfl, iwX7_findBest_7, tyX7_ok, nmX7, by decide, by decide +kernel, rfl, rfl, by decide +kernel, dX7_findBest_6⟩
theorem sX7_findBest_12 : zk_ps cX7_findBest wsX7_findBest RX7 12 7 12 := ⟨RX7, TX7, 15, 123, tyX7, rfl, iwX7_findBest_7, tyX7_ok, nmX7, by decide, by decide +kernel, rfl, rfl, by decide +kernel, dX7_findBest_12⟩
theorem sX7_findBest_24 : zk_gs cX7_findBest wsX7_findBest RX7 24 7 0 := ⟨RX7, TX7, 15, 7, rfl, iwX7_findBest_7, by decide, by decide +kernel, rfl, dX7_findBest_24⟩
theorem hdX7_firstTold : yX7_firstTold.cls = RX7 ∧ yX7_firstTold.cls ≠ "java/lang/invoke/MethodHandle" ∧ yX7_firstTold.cls ≠ "java/lang/invoke/VarHandle" ∧ (parseMethodDescriptor yX7_firstTold.desc).map (fun d => d.parameters.length) = some 1 := by decide +kernel
theorem hdX7_goNext : yX7_goNext.cls = RX7 ∧ yX7_goNext.cls ≠ "java/lang/invoke/MethodHandle" ∧ yX7_goNext.cls ≠ "java/lang/invoke/VarHandle" ∧ (parseMethodDescriptor yX7_goNext.desc).map (fun d => d.parameters.length) = some 0 := by decide +kernel
theorem iwX7_goNext_7 : ∀ w ∈ wsX70, w ∈ wsX7_goNext := fun _ h => List.mem_cons_of_mem _ (List.mem_append_right _ h)
theorem sX7_goNext_2 : zk_gs cX7_goNext wsX7_goNext RX7 2 7 0 := ⟨RX7, TX7, 15, 7, rfl, iwX7_goNext_7, by decide, by decide +kernel, rfl, dX7_goNext_2⟩
theorem sX7_goNext_9 : zk_gs cX7_goNext wsX7_goNext RX7 9 7 0 := ⟨RX7, TX7, 15, 7, rfl, iwX7_goNext_7, by decide, by decide +kernel, rfl, dX7_goNext_9⟩
theorem sX7_goNext_16 : zk_gs cX7_goNext wsX7_goNext RX7 16 7 0 := ⟨RX7, TX7, 15, 7, rfl, iwX7_goNext_7, by decide, by decide +kernel, rfl, dX7_goNext_16⟩
theorem sX7_goNext_23 : zk_gs cX7_goNext wsX7_goNext RX7 23 7 0 := ⟨RX7, TX7, 15, 7, rfl, iwX7_goNext_7, by decide, by decide +kernel, rfl, dX7_goNext_23⟩
theorem hdX7_goOver : yX7_goOver.cls = RX7 ∧ yX7_goOver.cls ≠ "java/lang/invoke/MethodHandle" ∧ yX7_goOver.cls ≠ "java/lang/invoke/VarHandle" ∧ (parseMethodDescriptor yX7_goOver.desc).map (fun d => d.parameters.length) = some 1 := by decide +kernel
theorem iwX7_goOver_7 : ∀ w ∈ wsX70, w ∈ wsX7_goOver := fun _ h => List.mem_cons_of_mem _ (List.mem_append_right _ h)
theorem sX7_goOver_2 : zk_gs cX7_goOver wsX7_goOver RX7 2 7 5 := ⟨RX7, TX7, 15, 23, rfl, iwX7_goOver_7, by decide, by decide +kernel, rfl, dX7_goOver_2⟩
theorem sX7_goOver_15 : zk_gs cX7_goOver wsX7_goOver RX7 15 7 5 := ⟨RX7, TX7, 15, 23, rfl, iwX7_goOver_7, by decide, by decide +kernel, rfl, dX7_goOver_15⟩
theorem sX7_goOver_22 : zk_gs cX7_goOver wsX7_goOver RX7 22 7 5 := ⟨RX7, TX7, 15, 23, rfl, iwX7_goOver_7, by decide, by decide +kernel, rfl, dX7_goOver_22⟩
theorem sX7_goOver_28 : zk_gs cX7_goOver wsX7_goOver RX7 28 7 0 := ⟨RX7, TX7, 15, 7, rfl, iwX7_goOver_7, by decide, by decide +kernel, rfl, dX7_goOver_28⟩
theorem sX7_goOver_43 : zk_gs cX7_goOver wsX7_goOver RX7 43 7 5 := ⟨RX7, TX7, 15, 23, rfl, iwX7_goOver_7, by decide, by decide +kernel, rfl, dX7_goOver_43⟩
theorem sX7_goOver_56 : zk_gs cX7_goOver wsX7_goOver RX7 56 7 5 := ⟨RX7, TX7, 15, 23, rfl, iwX7_goOver_7, by decide, by decide +kernel, rfl, dX7_goOver_56⟩
theorem sX7_goOver_63 : zk_gs cX7_goOver wsX7_goOver RX7 63 7 5 := ⟨RX7, TX7, 15, 23, rfl, iwX7_goOver_7, by decide, by decide +kernel, rfl, dX7_goOver_63⟩
theorem sX7_goOver_78 : zk_gs cX7_goOver wsX7_goOver RX7 78 7 0 := ⟨RX7, TX7, 15, 7, rfl, iwX7_goOver_7, by decide, by decide +kernel, rfl, dX7_goOver_78⟩
theorem sX7_goOver_89 : zk_gs cX7_goOver wsX7_goOver RX7 89 7 3 := ⟨RX7, TX7, 15, 20, rfl, iwX7_goOver_7, by decide, by decide +kernel, rfl, dX7_goOver_89⟩
theorem sX7_goOver_94 : zk_gs cX7_goOver wsX7_goOver RX7 94 7 4 := ⟨RX7, TX7, 15, 55, rfl, iwX7_goOver_7, by decide, by decide +kernel, rfl, dX7_goOver_94⟩
theorem sX7_goOver_101 : zk_gs cX7_goOver wsX7_goOver RX7 101 7 3 := ⟨RX7, TX7, 15, 20, rfl, iwX7_goOver_7, by decide, by decide +kernel, rfl, dX7_goOver_101⟩
theorem sX7_goOver_106 : zk_gs cX7_goOver wsX7_goOver RX7 106 7 4 := ⟨RX7, TX7, 15, 55, rfl, iwX7_goOver_7, by decide, by decide +kernel, rfl, dX7_goOver_106⟩
theorem sX7_goOver_115 : zk_gs cX7_goOver wsX7_goOver RX7 115 7 3 := ⟨RX7, TX7, 15, 20, rfl, iwX7_goOver_7, by decide, by decide +kernel, rfl, dX7_goOver_115⟩
theorem sX7_goOver_120 : zk_gs cX7_goOver wsX7_goOver RX7 120 7 4 := ⟨RX7, TX7, 15, 55, rfl, iwX7_goOver_7, by decide, by decide +kernel, rfl, dX7_goOver_120⟩
theorem sX7_goOver_129 : zk_gs cX7_goOver wsX7_goOver RX7 129 7 3 := ⟨RX7, TX7, 15, 20, rfl, iwX7_goOver_7, by decide, by decide +kernel, rfl, dX7_goOver_129⟩
theorem sX7_goOver_134 : zk_gs cX7_goOver wsX7_goOver RX7 134 7 4 := ⟨RX7, TX7, 15, 55, rfl, iwX7_goOver_7, by decide, by decide +kernel, rfl, dX7_goOver_134⟩
theorem sX7_goOver_144 : zk_gs cX7_goOver wsX7_goOver RX7 144 7 5 := ⟨RX7, TX7, 15, 23, rfl, iwX7_goOver_7, by decide, by decide +kernel, rfl, dX7_goOver_144⟩
theorem sX7_goOver_154 : zk_gs cX7_goOver wsX7_goOver RX7 154 7 5 := ⟨RX7, TX7, 15, 23, rfl, iwX7_goOver_7, by decide, by decide +kernel, rfl, dX7_goOver_154⟩
theorem sX7_goOver_164 : zk_gs cX7_goOver wsX7_goOver RX7 164 7 5 := ⟨RX7, TX7, 15, 23, rfl, iwX7_goOver_7, by decide, by decide +kernel, rfl, dX7_goOver_164⟩
theorem sX7_goOver_174 : zk_gs cX7_goOver wsX7_goOver RX7 174 7 5 := ⟨RX7, TX7, 15, 23, rfl, iwX7_goOver_7, by decide, by decide +kernel, rfl, dX7_goOver_174⟩
theorem sX7_goOver_186 : zk_gs cX7_goOver wsX7_goOver RX7 186 7 4 := ⟨RX7, TX7, 15, 55, rfl, iwX7_goOver_7, by decide, by decide +kernel, rfl, dX7_goOver_186⟩
theorem sX7_goOver_191 : zk_ps cX7_goOver wsX7_goOver RX7 191 7 4 := ⟨RX7, TX7, 15, 55, tyX7, rfl, iwX7_goOver_7, tyX7_ok, nmX7, by decide, by decide +kernel, rfl, rfl, by decide +kernel, dX7_goOver_191⟩
theorem hdX7_goRun : yX7_goRun.cls = RX7 ∧ yX7_goRun.cls ≠ "java/lang/invoke/MethodHandle" ∧ yX7_goRun.cls ≠ "java/lang/invoke/VarHandle" ∧ (parseMethodDescriptor yX7_goRun.desc).map (fun d => d.parameters.length) = some 4 := by decide +kernel
theorem iwX7_goRun_7 : ∀ w ∈ wsX70, w ∈ wsX7_goRun := fun _ h => List.mem_cons_of_mem _ (List.mem_append_right _ h)
theorem sX7_goRun_1 : zk_gs cX7_goRun wsX7_goRun RX7 1 7 6 := ⟨RX7, TX7, 15, 26, rfl, iwX7_goRun_7, by decide, by decide +kernel, rfl, dX7_goRun_1⟩
theorem sX7_goRun_6 : zk_gs cX7_goRun wsX7_goRun RX7 6 7 0 := ⟨RX7, TX7, 15, 7, rfl, iwX7_goRun_7, by decide, by decide +kernel, rfl, dX7_goRun_6⟩
theorem sX7_goRun_15 : zk_gs cX7_goRun wsX7_goRun RX7 15 7 6 := ⟨RX7, TX7, 15, 26, rfl, iwX7_goRun_7, by decide, by decide +kernel, rfl, dX7_goRun_15⟩
theorem sX7_goRun_20 : zk_gs cX7_goRun wsX7_goRun RX7 20 7 0 := ⟨RX7, TX7, 15, 7, rfl, iwX7_goRun_7, by decide, by decide +kernel, rfl, dX7_goRun_20⟩
theorem sX7_goRun_26 : zk_gs cX7_goRun wsX7_goRun RX7 26 7 0 := ⟨RX7, TX7, 15, 7, rfl, iwX7_goRun_7, by decide, by decide +kernel, rfl, dX7_goRun_26⟩
theorem sX7_goRun_36 : zk_gs cX7_goRun wsX7_goRun RX7 36 7 6 := ⟨RX7, TX7, 15, 26, rfl, iwX7_goRun_7, by decide, by decide +kernel, rfl, dX7_goRun_36⟩
theorem sX7_goRun_41 : zk_gs cX7_goRun wsX7_goRun RX7 41 7 0 := ⟨RX7, TX7, 15, 7, rfl, iwX7_goRun_7, by decide, by decide +kernel, rfl, dX7_goRun_41⟩
theorem sX7_goRun_50 : zk_gs cX7_goRun wsX7_goRun RX7 50 7 6 := ⟨RX7, TX7, 15, 26, rfl, iwX7_goRun_7, by decide, by decide +kernel, rfl, dX7_goRun_50⟩
theorem sX7_goRun_55 : zk_gs cX7_goRun wsX7_goRun RX7 55 7 0 := ⟨RX7, TX7, 15, 7, rfl, iwX7_goRun_7, by decide, by decide +kernel, rfl, dX7_goRun_55⟩
theorem sX7_goRun_74 : zk_gs cX7_goRun wsX7_goRun RX7 74 7 5 := ⟨RX7, TX7, 15, 23, rfl, iwX7_goRun_7, by decide, by decide +kernel, rfl, dX7_goRun_74⟩
theorem sX7_goRun_80 : zk_gs cX7_goRun wsX7_goRun RX7 80 7 6 := ⟨RX7, TX7, 15, 26, rfl, iwX7_goRun_7, by decide, by decide +kernel, rfl, dX7_goRun_80⟩
theorem sX7_goRun_95 : zk_ps cX7_goRun wsX7_goRun RX7 95 7 4 := ⟨RX7, TX7, 15, 55, tyX7, rfl, iwX7_goRun_7, tyX7_ok, nmX7, by decide, by decide +kernel, rfl, rfl, by decide +kernel, dX7_goRun_95⟩
theorem sX7_goRun_107 : zk_gs cX7_goRun wsX7_goRun RX7 107 7 5 := ⟨RX7, TX7, 15, 23, rfl, iwX7_goRun_7, by decide, by decide +kernel, rfl, dX7_goRun_107⟩
theorem sX7_goRun_117 : zk_gs cX7_goRun wsX7_goRun RX7 117 7 4 := ⟨RX7, TX7, 15, 55, rfl, iwX7_goRun_7, by decide, by decide +kernel, rfl, dX7_goRun_117⟩
theorem sX7_goRun_126 : zk_gs cX7_goRun wsX7_goRun RX7 126 7 5 := ⟨RX7, TX7, 15, 23, rfl, iwX7_goRun_7, by decide, by decide +kernel, rfl, dX7_goRun_126⟩
theorem sX7_goRun_132 : zk_gs cX7_goRun wsX7_goRun RX7 132 7 5 := ⟨RX7, TX7, 15, 23, rfl, iwX7_goRun_7, by decide, by decide +kernel, rfl, dX7_goRun_132⟩
theorem sX7_goRun_167 : zk_gs cX7_goRun wsX7_goRun RX7 167 7 0 := ⟨RX7, TX7, 15, 7, rfl, iwX7_goRun_7, by decide, by decide +kernel, rfl, dX7_goRun_167⟩
theorem hdX7_heartsOf : yX7_heartsOf.cls = RX7 ∧ yX7_heartsOf.cls ≠ "java/lang/invoke/MethodHandle" ∧ yX7_heartsOf.cls ≠ "java/lang/invoke/VarHandle" ∧ (parseMethodDescriptor yX7_heartsOf.desc).map (fun d => d.parameters.length) = some 3 := by decide +kernel
theorem iwX7_heartsOf_7 : ∀ w ∈ wsX70, w ∈ wsX7_heartsOf := fun _ h => List.mem_cons_of_mem _ (List.mem_append_right _ h)
theorem sX7_heartsOf_15 : zk_gs cX7_heartsOf wsX7_heartsOf RX7 15 7 9 := ⟨RX7, TX7, 15, 35, rfl, iwX7_heartsOf_7, by decide, by decide +kernel, rfl, dX7_heartsOf_15⟩
theorem hdX7_image : yX7_image.cls = RX7 ∧ yX7_image.cls ≠ "java/lang/invoke/MethodHandle" ∧ yX7_image.cls ≠ "java/lang/invoke/VarHandle" ∧ (parseMethodDescriptor yX7_image.desc).map (fun d => d.parameters.length) = some 1 := by decide +kernel
theorem iwX7_image_7 : ∀ w ∈ wsX70, w ∈ wsX7_image := fun _ h => List.mem_cons_of_mem _ (List.mem_append_right _ h)
theorem sX7_image_21 : zk_gs cX7_image wsX7_image RX7 21 7 1 := ⟨RX7, TX7, 15, 13, rfl, iwX7_image_7, by decide, by decide +kernel, rfl, dX7_image_21⟩
theorem sX7_image_31 : zk_gs cX7_image wsX7_image RX7 31 7 0 := ⟨RX7, TX7, 15, 7, rfl, iwX7_image_7, by decide, by decide +kernel, rfl, dX7_image_31⟩
theorem sX7_image_44 : zk_gs cX7_image wsX7_image RX7 44 7 2 := ⟨RX7, TX7, 15, 16, rfl, iwX7_image_7, by decide, by decide +kernel, rfl, dX7_image_44⟩
theorem hdX7_in : yX7_in.cls = RX7 ∧ yX7_in.cls ≠ "java/lang/invoke/MethodHandle" ∧ yX7_in.cls ≠ "java/lang/invoke/VarHandle" ∧ (parseMethodDescriptor yX7_in.desc).map (fun d => d.parameters.length) = some 3 := by decide +kernel
theorem hdX7_init : yX7_init.cls = RX7 ∧ yX7_init.cls ≠ "java/lang/invoke/MethodHandle" ∧ yX7_init.cls ≠ "java/lang/invoke/VarHandle" ∧ (parseMethodDescriptor yX7_init.desc).map (fun d => d.parameters.length) = some 0 := by decide +kernel
theorem iwX7_init_7 : ∀ w ∈ wsX70, w ∈ wsX7_init := fun _ h => List.mem_cons_of_mem _ (List.mem_append_right _ h)
theorem sX7_init_9 : zk_pf cX7_init wsX7_init RX7 9 7 0 (.array .int) := ⟨RX7, TX7, 15, 7, tyX7, rfl, iwX7_init_7, tyX7_ok, nmX7, by decide, by decide +kernel, rfl, rfl, rfl, by decide +kernel, dX7_init_9⟩
theorem sX7_init_18 : zk_pf cX7_init wsX7_init RX7 18 7 1 (.array .int) := ⟨RX7, TX7, 15, 13, tyX7, rfl, iwX7_init_7, tyX7_ok, nmX7, by decide, by decide +kernel, rfl, rfl, rfl, by decide +kernel, dX7_init_18⟩
theorem sX7_init_25 : zk_pf cX7_init wsX7_init RX7 25 7 2 (.array .boolean) := ⟨RX7, TX7, 15, 16, tyX7, rfl, iwX7_init_7, tyX7_ok, nmX7, by decide, by decide +kernel, rfl, rfl, rfl, by decide +kernel, dX7_init_25⟩
theorem sX7_init_34 : zk_pf cX7_init wsX7_init RX7 34 7 3 (.array .int) := ⟨RX7, TX7, 15, 20, tyX7, rfl, iwX7_init_7, tyX7_ok, nmX7, by decide, by decide +kernel, rfl, rfl, rfl, by decide +kernel, dX7_init_34⟩
theorem sX7_init_41 : zk_pf cX7_init wsX7_init RX7 41 7 5 (.array .int) := ⟨RX7, TX7, 15, 23, tyX7, rfl, iwX7_init_7, tyX7_ok, nmX7, by decide, by decide +kernel, rfl, rfl, rfl, by decide +kernel, dX7_init_41⟩
theorem sX7_init_48 : zk_pf cX7_init wsX7_init RX7 48 7 6 (.array .int) := ⟨RX7, TX7, 15, 26, tyX7, rfl, iwX7_init_7, tyX7_ok, nmX7, by decide, by decide +kernel, rfl, rfl, rfl, by decide +kernel, dX7_init_48⟩
theorem sX7_init_55 : zk_pf cX7_init wsX7_init RX7 55 7 7 (.array .int) := ⟨RX7, TX7, 15, 29, tyX7, rfl, iwX7_init_7, tyX7_ok, nmX7, by decide, by decide +kernel, rfl, rfl, rfl, by decide +kernel, dX7_init_55⟩
theorem sX7_init_64 : zk_pf cX7_init wsX7_init RX7 64 7 8 (.array .int) := ⟨RX7, TX7, 15, 32, tyX7, rfl, iwX7_init_7, tyX7_ok, nmX7, by decide, by decide +kernel, rfl, rfl, rfl, by decide +kernel, dX7_init_64⟩
theorem sX7_init_73 : zk_pf cX7_init wsX7_init RX7 73 7 9 (.array .int) := ⟨RX7, TX7, 15, 35, tyX7, rfl, iwX7_init_7, tyX7_ok, nmX7, by decide, by decide +kernel, rfl, rfl, rfl, by decide +kernel, dX7_init_73⟩
theorem sX7_init_77 : zk_gs cX7_init wsX7_init RX7 77 7 0 := ⟨RX7, TX7, 15, 7, rfl, iwX7_init_7, by decide, by decide +kernel, rfl, dX7_init_77⟩
theorem sX7_init_85 : zk_gs cX7_init wsX7_init RX7 85 7 0 := ⟨RX7, TX7, 15, 7, rfl, iwX7_init_7, by decide, by decide +kernel, rfl, dX7_init_85⟩
theorem sX7_init_93 : zk_gs cX7_init wsX7_init RX7 93 7 0 := ⟨RX7, TX7, 15, 7, rfl, iwX7_init_7, by decide, by decide +kernel, rfl, dX7_init_93⟩
theorem sX7_init_101 : zk_gs cX7_init wsX7_init RX7 101 7 0 := ⟨RX7, TX7, 15, 7, rfl, iwX7_init_7, by decide, by decide +kernel, rfl, dX7_init_101⟩
theorem sX7_init_109 : zk_gs cX7_init wsX7_init RX7 109 7 0 := ⟨RX7, TX7, 15, 7, rfl, iwX7_init_7, by decide, by decide +kernel, rfl, dX7_init_109⟩
theorem sX7_init_117 : zk_gs cX7_init wsX7_init RX7 117 7 0 := ⟨RX7, TX7, 15, 7, rfl, iwX7_init_7, by decide, by decide +kernel, rfl, dX7_init_117⟩
theorem sX7_init_127 : zk_gs cX7_init wsX7_init RX7 127 7 0 := ⟨RX7, TX7, 15, 7, rfl, iwX7_init_7, by decide, by decide +kernel, rfl, dX7_init_127⟩
theorem sX7_init_137 : zk_gs cX7_init wsX7_init RX7 137 7 0 := ⟨RX7, TX7, 15, 7, rfl, iwX7_init_7, by decide, by decide +kernel, rfl, dX7_init_137⟩
theorem sX7_init_145 : zk_gs cX7_init wsX7_init RX7 145 7 0 := ⟨RX7, TX7, 15, 7, rfl, iwX7_init_7, by decide, by decide +kernel, rfl, dX7_init_145⟩
theorem sX7_init_154 : zk_gs cX7_init wsX7_init RX7 154 7 0 := ⟨RX7, TX7, 15, 7, rfl, iwX7_init_7, by decide, by decide +kernel, rfl, dX7_init_154⟩
theorem sX7_init_171 : zk_gs cX7_init wsX7_init RX7 171 7 0 := ⟨RX7, TX7, 15, 7, rfl, iwX7_init_7, by decide, by decide +kernel, rfl, dX7_init_171⟩
theorem hdX7_isPage : yX7_isPage.cls = RX7 ∧ yX7_isPage.cls ≠ "java/lang/invoke/MethodHandle" ∧ yX7_isPage.cls ≠ "java/lang/invoke/VarHandle" ∧ (parseMethodDescriptor yX7_isPage.desc).map (fun d => d.parameters.length) = some 1 := by decide +kernel
theorem iwX7_isPage_7 : ∀ w ∈ wsX70, w ∈ wsX7_isPage := fun _ h => List.mem_cons_of_mem _ (List.mem_append_right _ h)
theorem sX7_isPage_3 : zk_gs cX7_isPage wsX7_isPage RX7 3 7 0 := ⟨RX7, TX7, 15, 7, rfl, iwX7_isPage_7, by decide, by decide +kernel, rfl, dX7_isPage_3⟩
theorem hdX7_kept : yX7_kept.cls = RX7 ∧ yX7_kept.cls ≠ "java/lang/invoke/MethodHandle" ∧ yX7_kept.cls ≠ "java/lang/invoke/VarHandle" ∧ (parseMethodDescriptor yX7_kept.desc).map (fun d => d.parameters.length) = some 1 := by decide +kernel
theorem hdX7_lay : yX7_lay.cls = RX7 ∧ yX7_lay.cls ≠ "java/lang/invoke/MethodHandle" ∧ yX7_lay.cls ≠ "java/lang/invoke/VarHandle" ∧ (parseMethodDescriptor yX7_lay.desc).map (fun d => d.parameters.length) = some 1 := by decide +kernel
theorem iwX7_lay_7 : ∀ w ∈ wsX70, w ∈ wsX7_lay := fun _ h => List.mem_cons_of_mem _ (List.mem_append_right _ h)
theorem sX7_lay_8 : zk_gs cX7_lay wsX7_lay RX7 8 7 0 := ⟨RX7, TX7, 15, 7, rfl, iwX7_lay_7, by decide, by decide +kernel, rfl, dX7_lay_8⟩
theorem sX7_lay_15 : zk_gs cX7_lay wsX7_lay RX7 15 7 7 := ⟨RX7, TX7, 15, 29, rfl, iwX7_lay_7, by decide, by decide +kernel, rfl, dX7_lay_15⟩
theorem hdX7_layRuns : yX7_layRuns.cls = RX7 ∧ yX7_layRuns.cls ≠ "java/lang/invoke/MethodHandle" ∧ yX7_layRuns.cls ≠ "java/lang/invoke/VarHandle" ∧ (parseMethodDescriptor yX7_layRuns.desc).map (fun d => d.parameters.length) = some 0 := by decide +kernel
theorem iwX7_layRuns_7 : ∀ w ∈ wsX70, w ∈ wsX7_layRuns := fun _ h => List.mem_cons_of_mem _ (List.mem_append_right _ h)
theorem sX7_layRuns_8 : zk_gs cX7_layRuns wsX7_layRuns RX7 8 7 8 := ⟨RX7, TX7, 15, 32, rfl, iwX7_layRuns_7, by decide, by decide +kernel, rfl, dX7_layRuns_8⟩
theorem sX7_layRuns_13 : zk_gs cX7_layRuns wsX7_layRuns RX7 13 7 0 := ⟨RX7, TX7, 15, 7, rfl, iwX7_layRuns_7, by decide, by decide +kernel, rfl, dX7_layRuns_13⟩
theorem sX7_layRuns_39 : zk_gs cX7_layRuns wsX7_layRuns RX7 39 7 8 := ⟨RX7, TX7, 15, 32, rfl, iwX7_layRuns_7, by decide, by decide +kernel, rfl, dX7_layRuns_39⟩
theorem sX7_layRuns_47 : zk_gs cX7_layRuns wsX7_layRuns RX7 47 7 8 := ⟨RX7, TX7, 15, 32, rfl, iwX7_layRuns_7, by decide, by decide +kernel, rfl, dX7_layRuns_47⟩
theorem sX7_layRuns_57 : zk_gs cX7_layRuns wsX7_layRuns RX7 57 7 8 := ⟨RX7, TX7, 15, 32, rfl, iwX7_layRuns_7, by decide, by decide +kernel, rfl, dX7_layRuns_57⟩
theorem sX7_layRuns_67 : zk_gs cX7_layRuns wsX7_layRuns RX7 67 7 8 := ⟨RX7, TX7, 15, 32, rfl, iwX7_layRuns_7, by decide, by decide +kernel, rfl, dX7_layRuns_67⟩
theorem sX7_layRuns_81 : zk_gs cX7_layRuns wsX7_layRuns RX7 81 7 0 := ⟨RX7, TX7, 15, 7, rfl, iwX7_layRuns_7, by decide, by decide +kernel, rfl, dX7_layRuns_81⟩
theorem sX7_layRuns_88 : zk_gs cX7_layRuns wsX7_layRuns RX7 88 7 0 := ⟨RX7, TX7, 15, 7, rfl, iwX7_layRuns_7, by decide, by decide +kernel, rfl, dX7_layRuns_88⟩
theorem sX7_layRuns_98 : zk_gs cX7_layRuns wsX7_layRuns RX7 98 7 9 := ⟨RX7, TX7, 15, 35, rfl, iwX7_layRuns_7, by decide, by decide +kernel, rfl, dX7_layRuns_98⟩
theorem sX7_layRuns_105 : zk_gs cX7_layRuns wsX7_layRuns RX7 105 7 7 := ⟨RX7, TX7, 15, 29, rfl, iwX7_layRuns_7, by decide, by decide +kernel, rfl, dX7_layRuns_105⟩
theorem sX7_layRuns_112 : zk_gs cX7_layRuns wsX7_layRuns RX7 112 7 9 := ⟨RX7, TX7, 15, 35, rfl, iwX7_layRuns_7, by decide, by decide +kernel, rfl, dX7_layRuns_112⟩
theorem sX7_layRuns_121 : zk_gs cX7_layRuns wsX7_layRuns RX7 121 7 7 := ⟨RX7, TX7, 15, 29, rfl, iwX7_layRuns_7, by decide, by decide +kernel, rfl, dX7_layRuns_121⟩
theorem sX7_layRuns_139 : zk_gs cX7_layRuns wsX7_layRuns RX7 139 7 8 := ⟨RX7, TX7, 15, 32, rfl, iwX7_layRuns_7, by decide, by decide +kernel, rfl, dX7_layRuns_139⟩
theorem sX7_layRuns_150 : zk_gs cX7_layRuns wsX7_layRuns RX7 150 7 7 := ⟨RX7, TX7, 15, 29, rfl, iwX7_layRuns_7, by decide, by decide +kernel, rfl, dX7_layRuns_150⟩
theorem hdX7_leastOf : yX7_leastOf.cls = RX7 ∧ yX7_leastOf.cls ≠ "java/lang/invoke/MethodHandle" ∧ yX7_leastOf.cls ≠ "java/lang/invoke/VarHandle" ∧ (parseMethodDescriptor yX7_leastOf.desc).map (fun d => d.parameters.length) = some 1 := by decide +kernel
theorem hdX7_litre : yX7_litre.cls = RX7 ∧ yX7_litre.cls ≠ "java/lang/invoke/MethodHandle" ∧ yX7_litre.cls ≠ "java/lang/invoke/VarHandle" ∧ (parseMethodDescriptor yX7_litre.desc).map (fun d => d.parameters.length) = some 2 := by decide +kernel
theorem iwX7_litre_7 : ∀ w ∈ wsX70, w ∈ wsX7_litre := fun _ h => List.mem_cons_of_mem _ (List.mem_append_right _ h)
theorem sX7_litre_7 : zk_gs cX7_litre wsX7_litre RX7 7 7 4 := ⟨RX7, TX7, 15, 55, rfl, iwX7_litre_7, by decide, by decide +kernel, rfl, dX7_litre_7⟩
theorem sX7_litre_38 : zk_gs cX7_litre wsX7_litre RX7 38 7 4 := ⟨RX7, TX7, 15, 55, rfl, iwX7_litre_7, by decide, by decide +kernel, rfl, dX7_litre_38⟩
theorem sX7_litre_48 : zk_gs cX7_litre wsX7_litre RX7 48 7 3 := ⟨RX7, TX7, 15, 20, rfl, iwX7_litre_7, by decide, by decide +kernel, rfl, dX7_litre_48⟩
theorem sX7_litre_60 : zk_gs cX7_litre wsX7_litre RX7 60 7 0 := ⟨RX7, TX7, 15, 7, rfl, iwX7_litre_7, by decide, by decide +kernel, rfl, dX7_litre_60⟩
theorem sX7_litre_76 : zk_gs cX7_litre wsX7_litre RX7 76 7 0 := ⟨RX7, TX7, 15, 7, rfl, iwX7_litre_7, by decide, by decide +kernel, rfl, dX7_litre_76⟩
theorem sX7_litre_83 : zk_gs cX7_litre wsX7_litre RX7 83 7 0 := ⟨RX7, TX7, 15, 7, rfl, iwX7_litre_7, by decide, by decide +kernel, rfl, dX7_litre_83⟩
theorem hdX7_mostOf : yX7_mostOf.cls = RX7 ∧ yX7_mostOf.cls ≠ "java/lang/invoke/MethodHandle" ∧ yX7_mostOf.cls ≠ "java/lang/invoke/VarHandle" ∧ (parseMethodDescriptor yX7_mostOf.desc).map (fun d => d.parameters.length) = some 1 := by decide +kernel
theorem hdX7_ofCell : yX7_ofCell.cls = RX7 ∧ yX7_ofCell.cls ≠ "java/lang/invoke/MethodHandle" ∧ yX7_ofCell.cls ≠ "java/lang/invoke/VarHandle" ∧ (parseMethodDescriptor yX7_ofCell.desc).map (fun d => d.parameters.length) = some 2 := by decide +kernel
theorem iwX7_ofCell_7 : ∀ w ∈ wsX70, w ∈ wsX7_ofCell := fun _ h => List.mem_cons_of_mem _ (List.mem_append_right _ h)
theorem sX7_ofCell_2 : zk_gs cX7_ofCell wsX7_ofCell RX7 2 7 0 := ⟨RX7, TX7, 15, 7, rfl, iwX7_ofCell_7, by decide, by decide +kernel, rfl, dX7_ofCell_2⟩
theorem sX7_ofCell_8 : zk_gs cX7_ofCell wsX7_ofCell RX7 8 7 0 := ⟨RX7, TX7, 15, 7, rfl, iwX7_ofCell_7, by decide, by decide +kernel, rfl, dX7_ofCell_8⟩
theorem sX7_ofCell_16 : zk_gs cX7_ofCell wsX7_ofCell RX7 16 7 0 := ⟨RX7, TX7, 15, 7, rfl, iwX7_ofCell_7, by decide, by decide +kernel, rfl, dX7_ofCell_16⟩
theorem sX7_ofCell_24 : zk_gs cX7_ofCell wsX7_ofCell RX7 24 7 0 := ⟨RX7, TX7, 15, 7, rfl, iwX7_ofCell_7, by decide, by decide +kernel, rfl, dX7_ofCell_24⟩
theorem hdX7_ofLiquid : yX7_ofLiquid.cls = RX7 ∧ yX7_ofLiquid.cls ≠ "java/lang/invoke/MethodHandle" ∧ yX7_ofLiquid.cls ≠ "java/lang/invoke/VarHandle" ∧ (parseMethodDescriptor yX7_ofLiquid.desc).map (fun d => d.parameters.length) = some 5 := by decide +kernel
theorem hdX7_ofSum : yX7_ofSum.cls = RX7 ∧ yX7_ofSum.cls ≠ "java/lang/invoke/MethodHandle" ∧ yX7_ofSum.cls ≠ "java/lang/invoke/VarHandle" ∧ (parseMethodDescriptor yX7_ofSum.desc).map (fun d => d.parameters.length) = some 1 := by decide +kernel
theorem iwX7_ofSum_7 : ∀ w ∈ wsX70, w ∈ wsX7_ofSum := fun _ h => List.mem_cons_of_mem _ (List.mem_append_right _ h)
theorem sX7_ofSum_2 : zk_gs cX7_ofSum wsX7_ofSum RX7 2 7 7 := ⟨RX7, TX7, 15, 29, rfl, iwX7_ofSum_7, by decide, by decide +kernel, rfl, dX7_ofSum_2⟩
theorem sX7_ofSum_8 : zk_gs cX7_ofSum wsX7_ofSum RX7 8 7 7 := ⟨RX7, TX7, 15, 29, rfl, iwX7_ofSum_7, by decide, by decide +kernel, rfl, dX7_ofSum_8⟩
theorem sX7_ofSum_14 : zk_gs cX7_ofSum wsX7_ofSum RX7 14 7 7 := ⟨RX7, TX7, 15, 29, rfl, iwX7_ofSum_7, by decide, by decide +kernel, rfl, dX7_ofSum_14⟩
theorem sX7_ofSum_20 : zk_gs cX7_ofSum wsX7_ofSum RX7 20 7 7 := ⟨RX7, TX7, 15, 29, rfl, iwX7_ofSum_7, by decide, by decide +kernel, rfl, dX7_ofSum_20⟩
theorem hdX7_over : yX7_over.cls = RX7 ∧ yX7_over.cls ≠ "java/lang/invoke/MethodHandle" ∧ yX7_over.cls ≠ "java/lang/invoke/VarHandle" ∧ (parseMethodDescriptor yX7_over.desc).map (fun d => d.parameters.length) = some 1 := by decide +kernel
theorem hdX7_overOf : yX7_overOf.cls = RX7 ∧ yX7_overOf.cls ≠ "java/lang/invoke/MethodHandle" ∧ yX7_overOf.cls ≠ "java/lang/invoke/VarHandle" ∧ (parseMethodDescriptor yX7_overOf.desc).map (fun d => d.parameters.length) = some 1 := by decide +kernel
theorem iwX7_overOf_7 : ∀ w ∈ wsX70, w ∈ wsX7_overOf := fun _ h => List.mem_cons_of_mem _ (List.mem_append_right _ h)
theorem sX7_overOf_6 : zk_gs cX7_overOf wsX7_overOf RX7 6 7 0 := ⟨RX7, TX7, 15, 7, rfl, iwX7_overOf_7, by decide, by decide +kernel, rfl, dX7_overOf_6⟩
theorem sX7_overOf_26 : zk_gs cX7_overOf wsX7_overOf RX7 26 7 0 := ⟨RX7, TX7, 15, 7, rfl, iwX7_overOf_7, by decide, by decide +kernel, rfl, dX7_overOf_26⟩
theorem hdX7_page : yX7_page.cls = RX7 ∧ yX7_page.cls ≠ "java/lang/invoke/MethodHandle" ∧ yX7_page.cls ≠ "java/lang/invoke/VarHandle" ∧ (parseMethodDescriptor yX7_page.desc).map (fun d => d.parameters.length) = some 2 := by decide +kernel
theorem hdX7_part : yX7_part.cls = RX7 ∧ yX7_part.cls ≠ "java/lang/invoke/MethodHandle" ∧ yX7_part.cls ≠ "java/lang/invoke/VarHandle" ∧ (parseMethodDescriptor yX7_part.desc).map (fun d => d.parameters.length) = some 2 := by decide +kernel
theorem iwX7_part_7 : ∀ w ∈ wsX70, w ∈ wsX7_part := fun _ h => List.mem_cons_of_mem _ (List.mem_append_right _ h)
theorem sX7_part_62 : zk_gs cX7_part wsX7_part RX7 62 7 6 := ⟨RX7, TX7, 15, 26, rfl, iwX7_part_7, by decide, by decide +kernel, rfl, dX7_part_62⟩
theorem sX7_part_68 : zk_gs cX7_part wsX7_part RX7 68 7 6 := ⟨RX7, TX7, 15, 26, rfl, iwX7_part_7, by decide, by decide +kernel, rfl, dX7_part_68⟩
theorem sX7_part_74 : zk_gs cX7_part wsX7_part RX7 74 7 6 := ⟨RX7, TX7, 15, 26, rfl, iwX7_part_7, by decide, by decide +kernel, rfl, dX7_part_74⟩
theorem sX7_part_80 : zk_gs cX7_part wsX7_part RX7 80 7 6 := ⟨RX7, TX7, 15, 26, rfl, iwX7_part_7, by decide, by decide +kernel, rfl, dX7_part_80⟩
theorem sX7_part_92 : zk_gs cX7_part wsX7_part RX7 92 7 0 := ⟨RX7, TX7, 15, 7, rfl, iwX7_part_7, by decide, by decide +kernel, rfl, dX7_part_92⟩
theorem sX7_part_109 : zk_gs cX7_part wsX7_part RX7 109 7 0 := ⟨RX7, TX7, 15, 7, rfl, iwX7_part_7, by decide, by decide +kernel, rfl, dX7_part_109⟩
theorem sX7_part_116 : zk_gs cX7_part wsX7_part RX7 116 7 0 := ⟨RX7, TX7, 15, 7, rfl, iwX7_part_7, by decide, by decide +kernel, rfl, dX7_part_116⟩
theorem sX7_part_134 : zk_gs cX7_part wsX7_part RX7 134 7 0 := ⟨RX7, TX7, 15, 7, rfl, iwX7_part_7, by decide, by decide +kernel, rfl, dX7_part_134⟩
theorem sX7_part_141 : zk_gs cX7_part wsX7_part RX7 141 7 0 := ⟨RX7, TX7, 15, 7, rfl, iwX7_part_7, by decide, by decide +kernel, rfl, dX7_part_141⟩
theorem sX7_part_163 : zk_gs cX7_part wsX7_part RX7 163 7 5 := ⟨RX7, TX7, 15, 23, rfl, iwX7_part_7, by decide, by decide +kernel, rfl, dX7_part_163⟩
theorem sX7_part_169 : zk_gs cX7_part wsX7_part RX7 169 7 5 := ⟨RX7, TX7, 15, 23, rfl, iwX7_part_7, by decide, by decide +kernel, rfl, dX7_part_169⟩
theorem sX7_part_175 : zk_gs cX7_part wsX7_part RX7 175 7 5 := ⟨RX7, TX7, 15, 23, rfl, iwX7_part_7, by decide, by decide +kernel, rfl, dX7_part_175⟩
theorem sX7_part_181 : zk_gs cX7_part wsX7_part RX7 181 7 5 := ⟨RX7, TX7, 15, 23, rfl, iwX7_part_7, by decide, by decide +kernel, rfl, dX7_part_181⟩
theorem hdX7_pour : yX7_pour.cls = RX7 ∧ yX7_pour.cls ≠ "java/lang/invoke/MethodHandle" ∧ yX7_pour.cls ≠ "java/lang/invoke/VarHandle" ∧ (parseMethodDescriptor yX7_pour.desc).map (fun d => d.parameters.length) = some 0 := by decide +kernel
theorem iwX7_pour_7 : ∀ w ∈ wsX70, w ∈ wsX7_pour := fun _ h => List.mem_cons_of_mem _ (List.mem_append_right _ h)
theorem sX7_pour_1 : zk_gs cX7_pour wsX7_pour RX7 1 7 0 := ⟨RX7, TX7, 15, 7, rfl, iwX7_pour_7, by decide, by decide +kernel, rfl, dX7_pour_1⟩
theorem hdX7_restore : yX7_restore.cls = RX7 ∧ yX7_restore.cls ≠ "java/lang/invoke/MethodHandle" ∧ yX7_restore.cls ≠ "java/lang/invoke/VarHandle" ∧ (parseMethodDescriptor yX7_restore.desc).map (fun d => d.parameters.length) = some 1 := by decide +kernel
theorem iwX7_restore_7 : ∀ w ∈ wsX70, w ∈ wsX7_restore := fun _ h => List.mem_cons_of_mem _ (List.mem_append_right _ h)
theorem sX7_restore_13 : zk_gs cX7_restore wsX7_restore RX7 13 7 2 := ⟨RX7, TX7, 15, 16, rfl, iwX7_restore_7, by decide, by decide +kernel, rfl, dX7_restore_13⟩
theorem sX7_restore_33 : zk_gs cX7_restore wsX7_restore RX7 33 7 0 := ⟨RX7, TX7, 15, 7, rfl, iwX7_restore_7, by decide, by decide +kernel, rfl, dX7_restore_33⟩
theorem sX7_restore_38 : zk_gs cX7_restore wsX7_restore RX7 38 7 1 := ⟨RX7, TX7, 15, 13, rfl, iwX7_restore_7, by decide, by decide +kernel, rfl, dX7_restore_38⟩
theorem hdX7_rule : yX7_rule.cls = RX7 ∧ yX7_rule.cls ≠ "java/lang/invoke/MethodHandle" ∧ yX7_rule.cls ≠ "java/lang/invoke/VarHandle" ∧ (parseMethodDescriptor yX7_rule.desc).map (fun d => d.parameters.length) = some 2 := by decide +kernel
theorem iwX7_rule_7 : ∀ w ∈ wsX70, w ∈ wsX7_rule := fun _ h => List.mem_cons_of_mem _ (List.mem_append_right _ h)
theorem sX7_rule_28 : zk_gs cX7_rule wsX7_rule RX7 28 7 0 := ⟨RX7, TX7, 15, 7, rfl, iwX7_rule_7, by decide, by decide +kernel, rfl, dX7_rule_28⟩
theorem sX7_rule_38 : zk_gs cX7_rule wsX7_rule RX7 38 7 0 := ⟨RX7, TX7, 15, 7, rfl, iwX7_rule_7, by decide, by decide +kernel, rfl, dX7_rule_38⟩
theorem hdX7_run : yX7_run.cls = RX7 ∧ yX7_run.cls ≠ "java/lang/invoke/MethodHandle" ∧ yX7_run.cls ≠ "java/lang/invoke/VarHandle" ∧ (parseMethodDescriptor yX7_run.desc).map (fun d => d.parameters.length) = some 0 := by decide +kernel
theorem iwX7_run_7 : ∀ w ∈ wsX70, w ∈ wsX7_run := fun _ h => List.mem_cons_of_mem _ (List.mem_append_right _ h)
theorem sX7_run_5 : zk_gs cX7_run wsX7_run RX7 5 7 0 := ⟨RX7, TX7, 15, 7, rfl, iwX7_run_7, by decide, by decide +kernel, rfl, dX7_run_5⟩
theorem sX7_run_23 : zk_gs cX7_run wsX7_run RX7 23 7 0 := ⟨RX7, TX7, 15, 7, rfl, iwX7_run_7, by decide, by decide +kernel, rfl, dX7_run_23⟩
theorem sX7_run_30 : zk_gs cX7_run wsX7_run RX7 30 7 0 := ⟨RX7, TX7, 15, 7, rfl, iwX7_run_7, by decide, by decide +kernel, rfl, dX7_run_30⟩
theorem sX7_run_40 : zk_gs cX7_run wsX7_run RX7 40 7 7 := ⟨RX7, TX7, 15, 29, rfl, iwX7_run_7, by decide, by decide +kernel, rfl, dX7_run_40⟩
theorem sX7_run_51 : zk_gs cX7_run wsX7_run RX7 51 7 0 := ⟨RX7, TX7, 15, 7, rfl, iwX7_run_7, by decide, by decide +kernel, rfl, dX7_run_51⟩
theorem sX7_run_63 : zk_gs cX7_run wsX7_run RX7 63 7 0 := ⟨RX7, TX7, 15, 7, rfl, iwX7_run_7, by decide, by decide +kernel, rfl, dX7_run_63⟩
theorem sX7_run_84 : zk_gs cX7_run wsX7_run RX7 84 7 0 := ⟨RX7, TX7, 15, 7, rfl, iwX7_run_7, by decide, by decide +kernel, rfl, dX7_run_84⟩
theorem hdX7_settled : yX7_settled.cls = RX7 ∧ yX7_settled.cls ≠ "java/lang/invoke/MethodHandle" ∧ yX7_settled.cls ≠ "java/lang/invoke/VarHandle" ∧ (parseMethodDescriptor yX7_settled.desc).map (fun d => d.parameters.length) = some 1 := by decide +kernel
theorem hdX7_strengthOf : yX7_strengthOf.cls = RX7 ∧ yX7_strengthOf.cls ≠ "java/lang/invoke/MethodHandle" ∧ yX7_strengthOf.cls ≠ "java/lang/invoke/VarHandle" ∧ (parseMethodDescriptor yX7_strengthOf.desc).map (fun d => d.parameters.length) = some 2 := by decide +kernel
theorem hdX7_sumHeart : yX7_sumHeart.cls = RX7 ∧ yX7_sumHeart.cls ≠ "java/lang/invoke/MethodHandle" ∧ yX7_sumHeart.cls ≠ "java/lang/invoke/VarHandle" ∧ (parseMethodDescriptor yX7_sumHeart.desc).map (fun d => d.parameters.length) = some 2 := by decide +kernel
theorem hdX7_sumKept : yX7_sumKept.cls = RX7 ∧ yX7_sumKept.cls ≠ "java/lang/invoke/MethodHandle" ∧ yX7_sumKept.cls ≠ "java/lang/invoke/VarHandle" ∧ (parseMethodDescriptor yX7_sumKept.desc).map (fun d => d.parameters.length) = some 0 := by decide +kernel
theorem iwX7_sumKept_7 : ∀ w ∈ wsX70, w ∈ wsX7_sumKept := fun _ h => List.mem_cons_of_mem _ (List.mem_append_right _ h)
theorem sX7_sumKept_7 : zk_gs cX7_sumKept wsX7_sumKept RX7 7 7 0 := ⟨RX7, TX7, 15, 7, rfl, iwX7_sumKept_7, by decide, by decide +kernel, rfl, dX7_sumKept_7⟩
theorem sX7_sumKept_19 : zk_gs cX7_sumKept wsX7_sumKept RX7 19 7 0 := ⟨RX7, TX7, 15, 7, rfl, iwX7_sumKept_7, by decide, by decide +kernel, rfl, dX7_sumKept_19⟩
theorem sX7_sumKept_26 : zk_gs cX7_sumKept wsX7_sumKept RX7 26 7 0 := ⟨RX7, TX7, 15, 7, rfl, iwX7_sumKept_7, by decide, by decide +kernel, rfl, dX7_sumKept_26⟩
theorem hdX7_table : yX7_table.cls = RX7 ∧ yX7_table.cls ≠ "java/lang/invoke/MethodHandle" ∧ yX7_table.cls ≠ "java/lang/invoke/VarHandle" ∧ (parseMethodDescriptor yX7_table.desc).map (fun d => d.parameters.length) = some 2 := by decide +kernel
theorem iwX7_table_7 : ∀ w ∈ wsX70, w ∈ wsX7_table := fun _ h => List.mem_cons_of_mem _ (List.mem_append_right _ h)
theorem sX7_table_27 : zk_gs cX7_table wsX7_table RX7 27 7 0 := ⟨RX7, TX7, 15, 7, rfl, iwX7_table_7, by decide, by decide +kernel, rfl, dX7_table_27⟩
theorem sX7_table_36 : zk_gs cX7_table wsX7_table RX7 36 7 0 := ⟨RX7, TX7, 15, 7, rfl, iwX7_table_7, by decide, by decide +kernel, rfl, dX7_table_36⟩
theorem hdX7_tailsFrom : yX7_tailsFrom.cls = RX7 ∧ yX7_tailsFrom.cls ≠ "java/lang/invoke/MethodHandle" ∧ yX7_tailsFrom.cls ≠ "java/lang/invoke/VarHandle" ∧ (parseMethodDescriptor yX7_tailsFrom.desc).map (fun d => d.parameters.length) = some 2 := by decide +kernel
theorem iwX7_tailsFrom_7 : ∀ w ∈ wsX70, w ∈ wsX7_tailsFrom := fun _ h => List.mem_cons_of_mem _ (List.mem_append_right _ h)
theorem sX7_tailsFrom_4 : zk_gs cX7_tailsFrom wsX7_tailsFrom RX7 4 7 4 := ⟨RX7, TX7, 15, 55, rfl, iwX7_tailsFrom_7, by decide, by decide +kernel, rfl, dX7_tailsFrom_4⟩
theorem sX7_tailsFrom_11 : zk_gs cX7_tailsFrom wsX7_tailsFrom RX7 11 7 3 := ⟨RX7, TX7, 15, 20, rfl, iwX7_tailsFrom_7, by decide, by decide +kernel, rfl, dX7_tailsFrom_11⟩
theorem hdX7_take : yX7_take.cls = RX7 ∧ yX7_take.cls ≠ "java/lang/invoke/MethodHandle" ∧ yX7_take.cls ≠ "java/lang/invoke/VarHandle" ∧ (parseMethodDescriptor yX7_take.desc).map (fun d => d.parameters.length) = some 0 := by decide +kernel
theorem iwX7_take_7 : ∀ w ∈ wsX70, w ∈ wsX7_take := fun _ h => List.mem_cons_of_mem _ (List.mem_append_right _ h)
theorem sX7_take_5 : zk_gs cX7_take wsX7_take RX7 5 7 14 := ⟨RX7, TX7, 15, 120, rfl, iwX7_take_7, by decide, by decide +kernel, rfl, dX7_take_5⟩
theorem sX7_take_15 : zk_gs cX7_take wsX7_take RX7 15 7 0 := ⟨RX7, TX7, 15, 7, rfl, iwX7_take_7, by decide, by decide +kernel, rfl, dX7_take_15⟩
theorem sX7_take_21 : zk_gs cX7_take wsX7_take RX7 21 7 10 := ⟨RX7, TX7, 15, 129, rfl, iwX7_take_7, by decide, by decide +kernel, rfl, dX7_take_21⟩
theorem sX7_take_26 : zk_gs cX7_take wsX7_take RX7 26 7 0 := ⟨RX7, TX7, 15, 7, rfl, iwX7_take_7, by decide, by decide +kernel, rfl, dX7_take_26⟩
theorem sX7_take_32 : zk_gs cX7_take wsX7_take RX7 32 7 11 := ⟨RX7, TX7, 15, 132, rfl, iwX7_take_7, by decide, by decide +kernel, rfl, dX7_take_32⟩
theorem sX7_take_37 : zk_gs cX7_take wsX7_take RX7 37 7 12 := ⟨RX7, TX7, 15, 123, rfl, iwX7_take_7, by decide, by decide +kernel, rfl, dX7_take_37⟩
theorem hdX7_tryCuts : yX7_tryCuts.cls = RX7 ∧ yX7_tryCuts.cls ≠ "java/lang/invoke/MethodHandle" ∧ yX7_tryCuts.cls ≠ "java/lang/invoke/VarHandle" ∧ (parseMethodDescriptor yX7_tryCuts.desc).map (fun d => d.parameters.length) = some 2 := by decide +kernel
theorem iwX7_tryCuts_7 : ∀ w ∈ wsX70, w ∈ wsX7_tryCuts := fun _ h => List.mem_cons_of_mem _ (List.mem_append_right _ h)
theorem sX7_tryCuts_7 : zk_gs cX7_tryCuts wsX7_tryCuts RX7 7 7 7 := ⟨RX7, TX7, 15, 29, rfl, iwX7_tryCuts_7, by decide, by decide +kernel, rfl, dX7_tryCuts_7⟩
theorem sX7_tryCuts_21 : zk_gs cX7_tryCuts wsX7_tryCuts RX7 21 7 0 := ⟨RX7, TX7, 15, 7, rfl, iwX7_tryCuts_7, by decide, by decide +kernel, rfl, dX7_tryCuts_21⟩
theorem sX7_tryCuts_32 : zk_gs cX7_tryCuts wsX7_tryCuts RX7 32 7 14 := ⟨RX7, TX7, 15, 120, rfl, iwX7_tryCuts_7, by decide, by decide +kernel, rfl, dX7_tryCuts_32⟩
theorem sX7_tryCuts_37 : zk_ps cX7_tryCuts wsX7_tryCuts RX7 37 7 14 := ⟨RX7, TX7, 15, 120, tyX7, rfl, iwX7_tryCuts_7, tyX7_ok, nmX7, by decide, by decide +kernel, rfl, rfl, by decide +kernel, dX7_tryCuts_37⟩
theorem sX7_tryCuts_41 : zk_gs cX7_tryCuts wsX7_tryCuts RX7 41 7 7 := ⟨RX7, TX7, 15, 29, rfl, iwX7_tryCuts_7, by decide, by decide +kernel, rfl, dX7_tryCuts_41⟩
theorem sX7_tryCuts_47 : zk_gs cX7_tryCuts wsX7_tryCuts RX7 47 7 12 := ⟨RX7, TX7, 15, 123, rfl, iwX7_tryCuts_7, by decide, by decide +kernel, rfl, dX7_tryCuts_47⟩
theorem sX7_tryCuts_55 : zk_gs cX7_tryCuts wsX7_tryCuts RX7 55 7 7 := ⟨RX7, TX7, 15, 29, rfl, iwX7_tryCuts_7, by decide, by decide +kernel, rfl, dX7_tryCuts_55⟩
theorem sX7_tryCuts_60 : zk_ps cX7_tryCuts wsX7_tryCuts RX7 60 7 12 := ⟨RX7, TX7, 15, 123, tyX7, rfl, iwX7_tryCuts_7, tyX7_ok, nmX7, by decide, by decide +kernel, rfl, rfl, by decide +kernel, dX7_tryCuts_60⟩
theorem sX7_tryCuts_69 : zk_ps cX7_tryCuts wsX7_tryCuts RX7 69 7 13 := ⟨RX7, TX7, 15, 126, tyX7, rfl, iwX7_tryCuts_7, tyX7_ok, nmX7, by decide, by decide +kernel, rfl, rfl, by decide +kernel, dX7_tryCuts_69⟩
theorem sX7_tryCuts_74 : zk_ps cX7_tryCuts wsX7_tryCuts RX7 74 7 10 := ⟨RX7, TX7, 15, 129, tyX7, rfl, iwX7_tryCuts_7, tyX7_ok, nmX7, by decide, by decide +kernel, rfl, rfl, by decide +kernel, dX7_tryCuts_74⟩
theorem sX7_tryCuts_79 : zk_ps cX7_tryCuts wsX7_tryCuts RX7 79 7 11 := ⟨RX7, TX7, 15, 132, tyX7, rfl, iwX7_tryCuts_7, tyX7_ok, nmX7, by decide, by decide +kernel, rfl, rfl, by decide +kernel, dX7_tryCuts_79⟩
theorem hdX7_wash : yX7_wash.cls = RX7 ∧ yX7_wash.cls ≠ "java/lang/invoke/MethodHandle" ∧ yX7_wash.cls ≠ "java/lang/invoke/VarHandle" ∧ (parseMethodDescriptor yX7_wash.desc).map (fun d => d.parameters.length) = some 4 := by decide +kernel
theorem iwX7_wash_7 : ∀ w ∈ wsX70, w ∈ wsX7_wash := fun _ h => List.mem_cons_of_mem _ (List.mem_append_right _ h)
theorem sX7_wash_46 : zk_gs cX7_wash wsX7_wash RX7 46 7 0 := ⟨RX7, TX7, 15, 7, rfl, iwX7_wash_7, by decide, by decide +kernel, rfl, dX7_wash_46⟩
theorem sX7_wash_54 : zk_gs cX7_wash wsX7_wash RX7 54 7 0 := ⟨RX7, TX7, 15, 7, rfl, iwX7_wash_7, by decide, by decide +kernel, rfl, dX7_wash_54⟩
theorem sX7_wash_61 : zk_gs cX7_wash wsX7_wash RX7 61 7 0 := ⟨RX7, TX7, 15, 7, rfl, iwX7_wash_7, by decide, by decide +kernel, rfl, dX7_wash_61⟩
theorem sX7_wash_68 : zk_gs cX7_wash wsX7_wash RX7 68 7 0 := ⟨RX7, TX7, 15, 7, rfl, iwX7_wash_7, by decide, by decide +kernel, rfl, dX7_wash_68⟩
theorem sX7_wash_75 : zk_gs cX7_wash wsX7_wash RX7 75 7 0 := ⟨RX7, TX7, 15, 7, rfl, iwX7_wash_7, by decide, by decide +kernel, rfl, dX7_wash_75⟩
theorem hdX7_weed : yX7_weed.cls = RX7 ∧ yX7_weed.cls ≠ "java/lang/invoke/MethodHandle" ∧ yX7_weed.cls ≠ "java/lang/invoke/VarHandle" ∧ (parseMethodDescriptor yX7_weed.desc).map (fun d => d.parameters.length) = some 1 := by decide +kernel
theorem iwX7_weed_7 : ∀ w ∈ wsX70, w ∈ wsX7_weed := fun _ h => List.mem_cons_of_mem _ (List.mem_append_right _ h)
theorem sX7_weed_15 : zk_gs cX7_weed wsX7_weed RX7 15 7 0 := ⟨RX7, TX7, 15, 7, rfl, iwX7_weed_7, by decide, by decide +kernel, rfl, dX7_weed_15⟩
theorem sX7_weed_55 : zk_gs cX7_weed wsX7_weed RX7 55 7 0 := ⟨RX7, TX7, 15, 7, rfl, iwX7_weed_7, by decide, by decide +kernel, rfl, dX7_weed_55⟩
