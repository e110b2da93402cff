theorem hdX6_best : yX6_best.cls = RX6 ∧ yX6_best.cls ≠ "java/lang/invoke/MethodHandle" ∧ yX6_best.cls ≠ "java/lang/invoke/VarHandle" ∧ (parseMethodDescriptor yX6_best.desc).map (fun d => d.parameters.length) = some 1 := by decide +kernel
theorem iwX6_best_0 : ∀ w ∈ wsX00, w ∈ wsX6_best := fun _ h => List.mem_cons_of_mem _ (List.mem_append_left _ (List.mem_append_left _ (List.mem_append_left _ (List.mem_append_left _ (List.mem_append_right _ h)))))
theorem iwX6_best_6 : ∀ w ∈ wsX60, w ∈ wsX6_best := fun _ h => List.mem_cons_of_mem _ (List.mem_append_left _ (List.mem_append_left _ (List.mem_append_left _ (List.mem_append_left _ (List.mem_append_left _ (List.mem_append_right _ h))))))
theorem sX6_best_13 : zk_gs cX6_best wsX6_best RX6 13 6 5 := ⟨RX6, TX6, 8, 36, rfl, iwX6_best_6, by decide, by decide +kernel, rfl, dX6_best_13⟩
theorem sX6_best_17 : zk_gs cX6_best wsX6_best RX6 17 6 0 := ⟨RX6, TX6, 8, 10, rfl, iwX6_best_6, by decide, by decide +kernel, rfl, dX6_best_17⟩
theorem sX6_best_21 : zk_gs cX6_best wsX6_best RX6 21 6 4 := ⟨RX6, TX6, 8, 29, rfl, iwX6_best_6, by decide, by decide +kernel, rfl, dX6_best_21⟩
theorem sX6_best_33 : zk_gs cX6_best wsX6_best RX6 33 6 5 := ⟨RX6, TX6, 8, 36, rfl, iwX6_best_6, by decide, by decide +kernel, rfl, dX6_best_33⟩
theorem sX6_best_36 : zk_gs cX6_best wsX6_best RX6 36 0 0 := ⟨RX0, TX0, 5, 146, rfl, iwX6_best_0, by decide, by decide +kernel, rfl, dX6_best_36⟩
theorem sX6_best_41 : zk_gs cX6_best wsX6_best RX6 41 6 5 := ⟨RX6, TX6, 8, 36, rfl, iwX6_best_6, by decide, by decide +kernel, rfl, dX6_best_41⟩
theorem sX6_best_44 : zk_gs cX6_best wsX6_best RX6 44 0 0 := ⟨RX0, TX0, 5, 146, rfl, iwX6_best_0, by decide, by decide +kernel, rfl, dX6_best_44⟩
theorem sX6_best_56 : zk_gs cX6_best wsX6_best RX6 56 6 5 := ⟨RX6, TX6, 8, 36, rfl, iwX6_best_6, by decide, by decide +kernel, rfl, dX6_best_56⟩
theorem hdX6_cask : yX6_cask.cls = RX6 ∧ yX6_cask.cls ≠ "java/lang/invoke/MethodHandle" ∧ yX6_cask.cls ≠ "java/lang/invoke/VarHandle" ∧ (parseMethodDescriptor yX6_cask.desc).map (fun d => d.parameters.length) = some 2 := by decide +kernel
theorem iwX6_cask_1 : ∀ w ∈ wsX10, w ∈ wsX6_cask := fun _ h => List.mem_cons_of_mem _ (List.mem_append_left _ (List.mem_append_left _ (List.mem_append_left _ (List.mem_append_left _ (List.mem_append_right _ h)))))
theorem iwX6_cask_6 : ∀ w ∈ wsX60, w ∈ wsX6_cask := fun _ h => List.mem_cons_of_mem _ (List.mem_append_left _ (List.mem_append_left _ (List.mem_append_left _ (List.mem_append_left _ (List.mem_append_left _ (List.mem_append_right _ h))))))
theorem sX6_cask_24 : zk_gs cX6_cask wsX6_cask RX6 24 6 6 := ⟨RX6, TX6, 8, 43, rfl, iwX6_cask_6, by decide, by decide +kernel, rfl, dX6_cask_24⟩
theorem sX6_cask_29 : zk_gs cX6_cask wsX6_cask RX6 29 6 0 := ⟨RX6, TX6, 8, 10, rfl, iwX6_cask_6, by decide, by decide +kernel, rfl, dX6_cask_29⟩
theorem sX6_cask_33 : zk_gs cX6_cask wsX6_cask RX6 33 6 4 := ⟨RX6, TX6, 8, 29, rfl, iwX6_cask_6, by decide, by decide +kernel, rfl, dX6_cask_33⟩
theorem sX6_cask_56 : zk_gs cX6_cask wsX6_cask RX6 56 6 6 := ⟨RX6, TX6, 8, 43, rfl, iwX6_cask_6, by decide, by decide +kernel, rfl, dX6_cask_56⟩
theorem sX6_cask_59 : zk_gs cX6_cask wsX6_cask RX6 59 1 1 := ⟨RX1, TX1, 7, 136, rfl, iwX6_cask_1, by decide, by decide +kernel, rfl, dX6_cask_59⟩
theorem hdX6_count : yX6_count.cls = RX6 ∧ yX6_count.cls ≠ "java/lang/invoke/MethodHandle" ∧ yX6_count.cls ≠ "java/lang/invoke/VarHandle" ∧ (parseMethodDescriptor yX6_count.desc).map (fun d => d.parameters.length) = some 1 := by decide +kernel
theorem iwX6_count_3 : ∀ w ∈ wsX30, w ∈ wsX6_count := fun _ h => List.mem_cons_of_mem _ (List.mem_append_right _ h)
theorem iwX6_count_5 : ∀ w ∈ wsX50, w ∈ wsX6_count := fun _ h => List.mem_cons_of_mem _ (List.mem_append_left _ (List.mem_append_right _ h))
theorem iwX6_count_6 : ∀ w ∈ wsX60, w ∈ wsX6_count := fun _ h => List.mem_cons_of_mem _ (List.mem_append_left _ (List.mem_append_left _ (List.mem_append_right _ h)))
theorem sX6_count_11 : zk_gs cX6_count wsX6_count RX6 11 6 0 := ⟨RX6, TX6, 8, 10, rfl, iwX6_count_6, by decide, by decide +kernel, rfl, dX6_count_11⟩
theorem sX6_count_14 : zk_gs cX6_count wsX6_count RX6 14 5 0 := ⟨RX5, TX5, 6, 58, rfl, iwX6_count_5, by decide, by decide +kernel, rfl, dX6_count_14⟩
theorem sX6_count_34 : zk_gs cX6_count wsX6_count RX6 34 6 0 := ⟨RX6, TX6, 8, 10, rfl, iwX6_count_6, by decide, by decide +kernel, rfl, dX6_count_34⟩
theorem sX6_count_37 : zk_gs cX6_count wsX6_count RX6 37 5 2 := ⟨RX5, TX5, 6, 71, rfl, iwX6_count_5, by decide, by decide +kernel, rfl, dX6_count_37⟩
theorem sX6_count_58 : zk_gs cX6_count wsX6_count RX6 58 6 0 := ⟨RX6, TX6, 8, 10, rfl, iwX6_count_6, by decide, by decide +kernel, rfl, dX6_count_58⟩
theorem sX6_count_61 : zk_gs cX6_count wsX6_count RX6 61 5 1 := ⟨RX5, TX5, 6, 62, rfl, iwX6_count_5, by decide, by decide +kernel, rfl, dX6_count_61⟩
theorem sX6_count_97 : zk_gs cX6_count wsX6_count RX6 97 6 0 := ⟨RX6, TX6, 8, 10, rfl, iwX6_count_6, by decide, by decide +kernel, rfl, dX6_count_97⟩
theorem sX6_count_100 : zk_gs cX6_count wsX6_count RX6 100 5 5 := ⟨RX5, TX5, 6, 100, rfl, iwX6_count_5, by decide, by decide +kernel, rfl, dX6_count_100⟩
theorem sX6_count_105 : zk_gs cX6_count wsX6_count RX6 105 6 0 := ⟨RX6, TX6, 8, 10, rfl, iwX6_count_6, by decide, by decide +kernel, rfl, dX6_count_105⟩
theorem sX6_count_108 : zk_gs cX6_count wsX6_count RX6 108 5 4 := ⟨RX5, TX5, 6, 88, rfl, iwX6_count_5, by decide, by decide +kernel, rfl, dX6_count_108⟩
theorem sX6_count_111 : zk_gs cX6_count wsX6_count RX6 111 3 5 := ⟨RX3, TX3, 6, 109, rfl, iwX6_count_3, by decide, by decide +kernel, rfl, dX6_count_111⟩
theorem sX6_count_116 : zk_gs cX6_count wsX6_count RX6 116 6 3 := ⟨RX6, TX6, 8, 22, rfl, iwX6_count_6, by decide, by decide +kernel, rfl, dX6_count_116⟩
theorem hdX6_image : yX6_image.cls = RX6 ∧ yX6_image.cls ≠ "java/lang/invoke/MethodHandle" ∧ yX6_image.cls ≠ "java/lang/invoke/VarHandle" ∧ (parseMethodDescriptor yX6_image.desc).map (fun d => d.parameters.length) = some 1 := by decide +kernel
theorem iwX6_image_6 : ∀ w ∈ wsX60, w ∈ wsX6_image := fun _ h => List.mem_cons_of_mem _ (List.mem_append_left _ (List.mem_append_left _ (List.mem_append_left _ (List.mem_append_right _ h))))
theorem sX6_image_18 : zk_gs cX6_image wsX6_image RX6 18 6 0 := ⟨RX6, TX6, 8, 10, rfl, iwX6_image_6, by decide, by decide +kernel, rfl, dX6_image_18⟩
theorem sX6_image_26 : zk_gs cX6_image wsX6_image RX6 26 6 3 := ⟨RX6, TX6, 8, 22, rfl, iwX6_image_6, by decide, by decide +kernel, rfl, dX6_image_26⟩
theorem sX6_image_33 : zk_ps cX6_image wsX6_image RX6 33 6 3 := ⟨RX6, TX6, 8, 22, tyX6, rfl, iwX6_image_6, tyX6_ok, nmX6, by decide, by decide +kernel, rfl, rfl, by decide +kernel, dX6_image_33⟩
theorem hdX6_imageAt : yX6_imageAt.cls = RX6 ∧ yX6_imageAt.cls ≠ "java/lang/invoke/MethodHandle" ∧ yX6_imageAt.cls ≠ "java/lang/invoke/VarHandle" ∧ (parseMethodDescriptor yX6_imageAt.desc).map (fun d => d.parameters.length) = some 1 := by decide +kernel
theorem iwX6_imageAt_6 : ∀ w ∈ wsX60, w ∈ wsX6_imageAt := fun _ h => List.mem_cons_of_mem _ (List.mem_append_right _ h)
theorem sX6_imageAt_5 : zk_gs cX6_imageAt wsX6_imageAt RX6 5 6 1 := ⟨RX6, TX6, 8, 16, rfl, iwX6_imageAt_6, by decide, by decide +kernel, rfl, dX6_imageAt_5⟩
theorem sX6_imageAt_12 : zk_gs cX6_imageAt wsX6_imageAt RX6 12 6 2 := ⟨RX6, TX6, 8, 19, rfl, iwX6_imageAt_6, by decide, by decide +kernel, rfl, dX6_imageAt_12⟩
theorem hdX6_init : yX6_init.cls = RX6 ∧ yX6_init.cls ≠ "java/lang/invoke/MethodHandle" ∧ yX6_init.cls ≠ "java/lang/invoke/VarHandle" ∧ (parseMethodDescriptor yX6_init.desc).map (fun d => d.parameters.length) = some 0 := by decide +kernel
theorem iwX6_init_6 : ∀ w ∈ wsX60, w ∈ wsX6_init := fun _ h => List.mem_cons_of_mem _ (List.mem_append_left _ (List.mem_append_left _ (List.mem_append_left _ (List.mem_append_left _ (List.mem_append_left _ (List.mem_append_right _ h))))))
theorem sX6_init_12 : zk_pf cX6_init wsX6_init RX6 12 6 0 (.object "PotCuts$Told") := ⟨RX6, TX6, 8, 10, tyX6, rfl, iwX6_init_6, tyX6_ok, nmX6, by decide, by decide +kernel, rfl, rfl, rfl, by decide +kernel, dX6_init_12⟩
theorem sX6_init_23 : zk_pf cX6_init wsX6_init RX6 23 6 1 (.object "PotCuts$Told") := ⟨RX6, TX6, 8, 16, tyX6, rfl, iwX6_init_6, tyX6_ok, nmX6, by decide, by decide +kernel, rfl, rfl, rfl, by decide +kernel, dX6_init_23⟩
theorem sX6_init_34 : zk_pf cX6_init wsX6_init RX6 34 6 2 (.object "PotCuts$Told") := ⟨RX6, TX6, 8, 19, tyX6, rfl, iwX6_init_6, tyX6_ok, nmX6, by decide, by decide +kernel, rfl, rfl, rfl, by decide +kernel, dX6_init_34⟩
theorem sX6_init_39 : zk_ps cX6_init wsX6_init RX6 39 6 3 := ⟨RX6, TX6, 8, 22, tyX6, rfl, iwX6_init_6, tyX6_ok, nmX6, by decide, by decide +kernel, rfl, rfl, by decide +kernel, dX6_init_39⟩
theorem sX6_init_50 : zk_pf cX6_init wsX6_init RX6 50 6 4 (.object "PotCuts$Still") := ⟨RX6, TX6, 8, 29, tyX6, rfl, iwX6_init_6, tyX6_ok, nmX6, by decide, by decide +kernel, rfl, rfl, rfl, by decide +kernel, dX6_init_50⟩
theorem sX6_init_61 : zk_pf cX6_init wsX6_init RX6 61 6 5 (.object "PotCuts$Choice") := ⟨RX6, TX6, 8, 36, tyX6, rfl, iwX6_init_6, tyX6_ok, nmX6, by decide, by decide +kernel, rfl, rfl, rfl, by decide +kernel, dX6_init_61⟩
theorem sX6_init_72 : zk_pf cX6_init wsX6_init RX6 72 6 6 (.object "PotCuts$Forecast") := ⟨RX6, TX6, 8, 43, tyX6, rfl, iwX6_init_6, tyX6_ok, nmX6, by decide, by decide +kernel, rfl, rfl, rfl, by decide +kernel, dX6_init_72⟩
theorem sX6_init_83 : zk_pf cX6_init wsX6_init RX6 83 6 7 (.object "PotCuts$Liquid") := ⟨RX6, TX6, 8, 50, tyX6, rfl, iwX6_init_6, tyX6_ok, nmX6, by decide, by decide +kernel, rfl, rfl, rfl, by decide +kernel, dX6_init_83⟩
theorem hdX6_kept : yX6_kept.cls = RX6 ∧ yX6_kept.cls ≠ "java/lang/invoke/MethodHandle" ∧ yX6_kept.cls ≠ "java/lang/invoke/VarHandle" ∧ (parseMethodDescriptor yX6_kept.desc).map (fun d => d.parameters.length) = some 1 := by decide +kernel
theorem iwX6_kept_5 : ∀ w ∈ wsX50, w ∈ wsX6_kept := fun _ h => List.mem_cons_of_mem _ (List.mem_append_left _ (List.mem_append_right _ h))
theorem iwX6_kept_6 : ∀ w ∈ wsX60, w ∈ wsX6_kept := fun _ h => List.mem_cons_of_mem _ (List.mem_append_left _ (List.mem_append_left _ (List.mem_append_right _ h)))
theorem sX6_kept_10 : zk_gs cX6_kept wsX6_kept RX6 10 6 0 := ⟨RX6, TX6, 8, 10, rfl, iwX6_kept_6, by decide, by decide +kernel, rfl, dX6_kept_10⟩
theorem sX6_kept_13 : zk_gs cX6_kept wsX6_kept RX6 13 5 3 := ⟨RX5, TX5, 6, 81, rfl, iwX6_kept_5, by decide, by decide +kernel, rfl, dX6_kept_13⟩
theorem hdX6_litre : yX6_litre.cls = RX6 ∧ yX6_litre.cls ≠ "java/lang/invoke/MethodHandle" ∧ yX6_litre.cls ≠ "java/lang/invoke/VarHandle" ∧ (parseMethodDescriptor yX6_litre.desc).map (fun d => d.parameters.length) = some 2 := by decide +kernel
theorem iwX6_litre_3 : ∀ w ∈ wsX30, w ∈ wsX6_litre := fun _ h => List.mem_cons_of_mem _ (List.mem_append_left _ (List.mem_append_left _ (List.mem_append_right _ h)))
theorem iwX6_litre_4 : ∀ w ∈ wsX40, w ∈ wsX6_litre := fun _ h => List.mem_cons_of_mem _ (List.mem_append_left _ (List.mem_append_left _ (List.mem_append_left _ (List.mem_append_right _ h))))
theorem iwX6_litre_6 : ∀ w ∈ wsX60, w ∈ wsX6_litre := fun _ h => List.mem_cons_of_mem _ (List.mem_append_left _ (List.mem_append_left _ (List.mem_append_left _ (List.mem_append_left _ (List.mem_append_right _ h)))))
theorem sX6_litre_7 : zk_gs cX6_litre wsX6_litre RX6 7 6 4 := ⟨RX6, TX6, 8, 29, rfl, iwX6_litre_6, by decide, by decide +kernel, rfl, dX6_litre_7⟩
theorem sX6_litre_10 : zk_gs cX6_litre wsX6_litre RX6 10 4 6 := ⟨RX4, TX4, 10, 106, rfl, iwX6_litre_4, by decide, by decide +kernel, rfl, dX6_litre_10⟩
theorem sX6_litre_13 : zk_gs cX6_litre wsX6_litre RX6 13 3 5 := ⟨RX3, TX3, 6, 109, rfl, iwX6_litre_3, by decide, by decide +kernel, rfl, dX6_litre_13⟩
theorem sX6_litre_44 : zk_gs cX6_litre wsX6_litre RX6 44 6 4 := ⟨RX6, TX6, 8, 29, rfl, iwX6_litre_6, by decide, by decide +kernel, rfl, dX6_litre_44⟩
theorem sX6_litre_47 : zk_gs cX6_litre wsX6_litre RX6 47 4 6 := ⟨RX4, TX4, 10, 106, rfl, iwX6_litre_4, by decide, by decide +kernel, rfl, dX6_litre_47⟩
theorem sX6_litre_50 : zk_gs cX6_litre wsX6_litre RX6 50 3 5 := ⟨RX3, TX3, 6, 109, rfl, iwX6_litre_3, by decide, by decide +kernel, rfl, dX6_litre_50⟩
theorem sX6_litre_57 : zk_gs cX6_litre wsX6_litre RX6 57 6 4 := ⟨RX6, TX6, 8, 29, rfl, iwX6_litre_6, by decide, by decide +kernel, rfl, dX6_litre_57⟩
theorem hdX6_over : yX6_over.cls = RX6 ∧ yX6_over.cls ≠ "java/lang/invoke/MethodHandle" ∧ yX6_over.cls ≠ "java/lang/invoke/VarHandle" ∧ (parseMethodDescriptor yX6_over.desc).map (fun d => d.parameters.length) = some 1 := by decide +kernel
theorem iwX6_over_6 : ∀ w ∈ wsX60, w ∈ wsX6_over := fun _ h => List.mem_cons_of_mem _ (List.mem_append_left _ (List.mem_append_right _ h))
theorem sX6_over_12 : zk_gs cX6_over wsX6_over RX6 12 6 0 := ⟨RX6, TX6, 8, 10, rfl, iwX6_over_6, by decide, by decide +kernel, rfl, dX6_over_12⟩
theorem hdX6_page : yX6_page.cls = RX6 ∧ yX6_page.cls ≠ "java/lang/invoke/MethodHandle" ∧ yX6_page.cls ≠ "java/lang/invoke/VarHandle" ∧ (parseMethodDescriptor yX6_page.desc).map (fun d => d.parameters.length) = some 2 := by decide +kernel
theorem iwX6_page_3 : ∀ w ∈ wsX30, w ∈ wsX6_page := fun _ h => List.mem_cons_of_mem _ (List.mem_append_left _ (List.mem_append_right _ h))
theorem iwX6_page_5 : ∀ w ∈ wsX50, w ∈ wsX6_page := fun _ h => List.mem_cons_of_mem _ (List.mem_append_left _ (List.mem_append_left _ (List.mem_append_right _ h)))
theorem iwX6_page_6 : ∀ w ∈ wsX60, w ∈ wsX6_page := fun _ h => List.mem_cons_of_mem _ (List.mem_append_left _ (List.mem_append_left _ (List.mem_append_left _ (List.mem_append_right _ h))))
theorem sX6_page_3 : zk_gs cX6_page wsX6_page RX6 3 6 0 := ⟨RX6, TX6, 8, 10, rfl, iwX6_page_6, by decide, by decide +kernel, rfl, dX6_page_3⟩
theorem sX6_page_6 : zk_gs cX6_page wsX6_page RX6 6 5 4 := ⟨RX5, TX5, 6, 88, rfl, iwX6_page_5, by decide, by decide +kernel, rfl, dX6_page_6⟩
theorem sX6_page_9 : zk_gs cX6_page wsX6_page RX6 9 3 5 := ⟨RX3, TX3, 6, 109, rfl, iwX6_page_3, by decide, by decide +kernel, rfl, dX6_page_9⟩
theorem sX6_page_35 : zk_gs cX6_page wsX6_page RX6 35 6 0 := ⟨RX6, TX6, 8, 10, rfl, iwX6_page_6, by decide, by decide +kernel, rfl, dX6_page_35⟩
theorem sX6_page_38 : zk_gs cX6_page wsX6_page RX6 38 5 4 := ⟨RX5, TX5, 6, 88, rfl, iwX6_page_5, by decide, by decide +kernel, rfl, dX6_page_38⟩
theorem sX6_page_43 : zk_gs cX6_page wsX6_page RX6 43 6 7 := ⟨RX6, TX6, 8, 50, rfl, iwX6_page_6, by decide, by decide +kernel, rfl, dX6_page_43⟩
theorem sX6_page_50 : zk_gs cX6_page wsX6_page RX6 50 6 7 := ⟨RX6, TX6, 8, 50, rfl, iwX6_page_6, by decide, by decide +kernel, rfl, dX6_page_50⟩
theorem hdX6_part : yX6_part.cls = RX6 ∧ yX6_part.cls ≠ "java/lang/invoke/MethodHandle" ∧ yX6_part.cls ≠ "java/lang/invoke/VarHandle" ∧ (parseMethodDescriptor yX6_part.desc).map (fun d => d.parameters.length) = some 2 := by decide +kernel
theorem iwX6_part_6 : ∀ w ∈ wsX60, w ∈ wsX6_part := fun _ h => List.mem_cons_of_mem _ (List.mem_append_left _ (List.mem_append_left _ (List.mem_append_left _ (List.mem_append_left _ (List.mem_append_right _ h)))))
theorem sX6_part_26 : zk_gs cX6_part wsX6_part RX6 26 6 4 := ⟨RX6, TX6, 8, 29, rfl, iwX6_part_6, by decide, by decide +kernel, rfl, dX6_part_26⟩
theorem hdX6_pour : yX6_pour.cls = RX6 ∧ yX6_pour.cls ≠ "java/lang/invoke/MethodHandle" ∧ yX6_pour.cls ≠ "java/lang/invoke/VarHandle" ∧ (parseMethodDescriptor yX6_pour.desc).map (fun d => d.parameters.length) = some 0 := by decide +kernel
theorem iwX6_pour_2 : ∀ w ∈ wsX20, w ∈ wsX6_pour := fun _ h => List.mem_cons_of_mem _ (List.mem_append_right _ h)
theorem iwX6_pour_5 : ∀ w ∈ wsX50, w ∈ wsX6_pour := fun _ h => List.mem_cons_of_mem _ (List.mem_append_left _ (List.mem_append_right _ h))
theorem iwX6_pour_6 : ∀ w ∈ wsX60, w ∈ wsX6_pour := fun _ h => List.mem_cons_of_mem _ (List.mem_append_left _ (List.mem_append_left _ (List.mem_append_right _ h)))
theorem sX6_pour_1 : zk_gs cX6_pour wsX6_pour RX6 1 6 0 := ⟨RX6, TX6, 8, 10, rfl, iwX6_pour_6, by decide, by decide +kernel, rfl, dX6_pour_1⟩
theorem sX6_pour_4 : zk_gs cX6_pour wsX6_pour RX6 4 5 3 := ⟨RX5, TX5, 6, 81, rfl, iwX6_pour_5, by decide, by decide +kernel, rfl, dX6_pour_4⟩
theorem sX6_pour_7 : zk_gs cX6_pour wsX6_pour RX6 7 2 0 := ⟨RX2, TX2, 4, 103, rfl, iwX6_pour_2, by decide, by decide +kernel, rfl, dX6_pour_7⟩
theorem sX6_pour_12 : zk_gs cX6_pour wsX6_pour RX6 12 6 0 := ⟨RX6, TX6, 8, 10, rfl, iwX6_pour_6, by decide, by decide +kernel, rfl, dX6_pour_12⟩
theorem sX6_pour_15 : zk_gs cX6_pour wsX6_pour RX6 15 5 3 := ⟨RX5, TX5, 6, 81, rfl, iwX6_pour_5, by decide, by decide +kernel, rfl, dX6_pour_15⟩
theorem hdX6_quotient : yX6_quotient.cls = RX6 ∧ yX6_quotient.cls ≠ "java/lang/invoke/MethodHandle" ∧ yX6_quotient.cls ≠ "java/lang/invoke/VarHandle" ∧ (parseMethodDescriptor yX6_quotient.desc).map (fun d => d.parameters.length) = some 2 := by decide +kernel
theorem hdX6_restore : yX6_restore.cls = RX6 ∧ yX6_restore.cls ≠ "java/lang/invoke/MethodHandle" ∧ yX6_restore.cls ≠ "java/lang/invoke/VarHandle" ∧ (parseMethodDescriptor yX6_restore.desc).map (fun d => d.parameters.length) = some 1 := by decide +kernel
theorem iwX6_restore_6 : ∀ w ∈ wsX60, w ∈ wsX6_restore := fun _ h => List.mem_cons_of_mem _ (List.mem_append_left _ (List.mem_append_left _ (List.mem_append_left _ (List.mem_append_right _ h))))
theorem sX6_restore_13 : zk_gs cX6_restore wsX6_restore RX6 13 6 3 := ⟨RX6, TX6, 8, 22, rfl, iwX6_restore_6, by decide, by decide +kernel, rfl, dX6_restore_13⟩
theorem sX6_restore_27 : zk_gs cX6_restore wsX6_restore RX6 27 6 0 := ⟨RX6, TX6, 8, 10, rfl, iwX6_restore_6, by decide, by decide +kernel, rfl, dX6_restore_27⟩
theorem hdX6_rule : yX6_rule.cls = RX6 ∧ yX6_rule.cls ≠ "java/lang/invoke/MethodHandle" ∧ yX6_rule.cls ≠ "java/lang/invoke/VarHandle" ∧ (parseMethodDescriptor yX6_rule.desc).map (fun d => d.parameters.length) = some 2 := by decide +kernel
theorem iwX6_rule_5 : ∀ w ∈ wsX50, w ∈ wsX6_rule := fun _ h => List.mem_cons_of_mem _ (List.mem_append_right _ h)
theorem iwX6_rule_6 : ∀ w ∈ wsX60, w ∈ wsX6_rule := fun _ h => List.mem_cons_of_mem _ (List.mem_append_left _ (List.mem_append_right _ h))
theorem sX6_rule_30 : zk_gs cX6_rule wsX6_rule RX6 30 6 0 := ⟨RX6, TX6, 8, 10, rfl, iwX6_rule_6, by decide, by decide +kernel, rfl, dX6_rule_30⟩
theorem sX6_rule_33 : zk_gs cX6_rule wsX6_rule RX6 33 5 2 := ⟨RX5, TX5, 6, 71, rfl, iwX6_rule_5, by decide, by decide +kernel, rfl, dX6_rule_33⟩
theorem sX6_rule_40 : zk_gs cX6_rule wsX6_rule RX6 40 6 0 := ⟨RX6, TX6, 8, 10, rfl, iwX6_rule_6, by decide, by decide +kernel, rfl, dX6_rule_40⟩
theorem sX6_rule_43 : zk_gs cX6_rule wsX6_rule RX6 43 5 2 := ⟨RX5, TX5, 6, 71, rfl, iwX6_rule_5, by decide, by decide +kernel, rfl, dX6_rule_43⟩
theorem hdX6_run : yX6_run.cls = RX6 ∧ yX6_run.cls ≠ "java/lang/invoke/MethodHandle" ∧ yX6_run.cls ≠ "java/lang/invoke/VarHandle" ∧ (parseMethodDescriptor yX6_run.desc).map (fun d => d.parameters.length) = some 0 := by decide +kernel
theorem iwX6_run_2 : ∀ w ∈ wsX20, w ∈ wsX6_run := fun _ h => List.mem_cons_of_mem _ (List.mem_append_left _ (List.mem_append_right _ h))
theorem iwX6_run_4 : ∀ w ∈ wsX40, w ∈ wsX6_run := fun _ h => List.mem_cons_of_mem _ (List.mem_append_left _ (List.mem_append_left _ (List.mem_append_right _ h)))
theorem iwX6_run_5 : ∀ w ∈ wsX50, w ∈ wsX6_run := fun _ h => List.mem_cons_of_mem _ (List.mem_append_left _ (List.mem_append_left _ (List.mem_append_left _ (List.mem_append_right _ h))))
theorem iwX6_run_6 : ∀ w ∈ wsX60, w ∈ wsX6_run := fun _ h => List.mem_cons_of_mem _ (List.mem_append_left _ (List.mem_append_left _ (List.mem_append_left _ (List.mem_append_left _ (List.mem_append_right _ h)))))
theorem sX6_run_5 : zk_gs cX6_run wsX6_run RX6 5 6 4 := ⟨RX6, TX6, 8, 29, rfl, iwX6_run_6, by decide, by decide +kernel, rfl, dX6_run_5⟩
theorem sX6_run_9 : zk_gs cX6_run wsX6_run RX6 9 6 0 := ⟨RX6, TX6, 8, 10, rfl, iwX6_run_6, by decide, by decide +kernel, rfl, dX6_run_9⟩
theorem sX6_run_12 : zk_gs cX6_run wsX6_run RX6 12 5 3 := ⟨RX5, TX5, 6, 81, rfl, iwX6_run_5, by decide, by decide +kernel, rfl, dX6_run_12⟩
theorem sX6_run_19 : zk_gs cX6_run wsX6_run RX6 19 6 0 := ⟨RX6, TX6, 8, 10, rfl, iwX6_run_6, by decide, by decide +kernel, rfl, dX6_run_19⟩
theorem sX6_run_22 : zk_gs cX6_run wsX6_run RX6 22 5 4 := ⟨RX5, TX5, 6, 88, rfl, iwX6_run_5, by decide, by decide +kernel, rfl, dX6_run_22⟩
theorem sX6_run_26 : zk_gs cX6_run wsX6_run RX6 26 6 4 := ⟨RX6, TX6, 8, 29, rfl, iwX6_run_6, by decide, by decide +kernel, rfl, dX6_run_26⟩
theorem sX6_run_29 : zk_gs cX6_run wsX6_run RX6 29 4 3 := ⟨RX4, TX4, 10, 92, rfl, iwX6_run_4, by decide, by decide +kernel, rfl, dX6_run_29⟩
theorem sX6_run_36 : zk_gs cX6_run wsX6_run RX6 36 6 0 := ⟨RX6, TX6, 8, 10, rfl, iwX6_run_6, by decide, by decide +kernel, rfl, dX6_run_36⟩
theorem sX6_run_40 : zk_gs cX6_run wsX6_run RX6 40 5 5 := ⟨RX5, TX5, 6, 100, rfl, iwX6_run_5, by decide, by decide +kernel, rfl, dX6_run_40⟩
theorem sX6_run_45 : zk_ps cX6_run wsX6_run RX6 45 5 5 := ⟨RX5, TX5, 6, 100, tyX5, rfl, iwX6_run_5, tyX5_ok, nmX5, by decide, by decide +kernel, rfl, rfl, by decide +kernel, dX6_run_45⟩
theorem sX6_run_49 : zk_gs cX6_run wsX6_run RX6 49 6 4 := ⟨RX6, TX6, 8, 29, rfl, iwX6_run_6, by decide, by decide +kernel, rfl, dX6_run_49⟩
theorem sX6_run_52 : zk_gs cX6_run wsX6_run RX6 52 4 3 := ⟨RX4, TX4, 10, 92, rfl, iwX6_run_4, by decide, by decide +kernel, rfl, dX6_run_52⟩
theorem sX6_run_55 : zk_gs cX6_run wsX6_run RX6 55 2 0 := ⟨RX2, TX2, 4, 103, rfl, iwX6_run_2, by decide, by decide +kernel, rfl, dX6_run_55⟩
theorem hdX6_seeNextRun : yX6_seeNextRun.cls = RX6 ∧ yX6_seeNextRun.cls ≠ "java/lang/invoke/MethodHandle" ∧ yX6_seeNextRun.cls ≠ "java/lang/invoke/VarHandle" ∧ (parseMethodDescriptor yX6_seeNextRun.desc).map (fun d => d.parameters.length) = some 0 := by decide +kernel
theorem iwX6_seeNextRun_5 : ∀ w ∈ wsX50, w ∈ wsX6_seeNextRun := fun _ h => List.mem_cons_of_mem _ (List.mem_append_left _ (List.mem_append_left _ (List.mem_append_left _ (List.mem_append_right _ h))))
theorem iwX6_seeNextRun_6 : ∀ w ∈ wsX60, w ∈ wsX6_seeNextRun := fun _ h => List.mem_cons_of_mem _ (List.mem_append_left _ (List.mem_append_left _ (List.mem_append_left _ (List.mem_append_left _ (List.mem_append_right _ h)))))
theorem sX6_seeNextRun_1 : zk_gs cX6_seeNextRun wsX6_seeNextRun RX6 1 6 4 := ⟨RX6, TX6, 8, 29, rfl, iwX6_seeNextRun_6, by decide, by decide +kernel, rfl, dX6_seeNextRun_1⟩
theorem sX6_seeNextRun_5 : zk_gs cX6_seeNextRun wsX6_seeNextRun RX6 5 6 0 := ⟨RX6, TX6, 8, 10, rfl, iwX6_seeNextRun_6, by decide, by decide +kernel, rfl, dX6_seeNextRun_5⟩
theorem sX6_seeNextRun_9 : zk_gs cX6_seeNextRun wsX6_seeNextRun RX6 9 6 0 := ⟨RX6, TX6, 8, 10, rfl, iwX6_seeNextRun_6, by decide, by decide +kernel, rfl, dX6_seeNextRun_9⟩
theorem sX6_seeNextRun_12 : zk_gs cX6_seeNextRun wsX6_seeNextRun RX6 12 5 3 := ⟨RX5, TX5, 6, 81, rfl, iwX6_seeNextRun_5, by decide, by decide +kernel, rfl, dX6_seeNextRun_12⟩
theorem sX6_seeNextRun_19 : zk_gs cX6_seeNextRun wsX6_seeNextRun RX6 19 6 4 := ⟨RX6, TX6, 8, 29, rfl, iwX6_seeNextRun_6, by decide, by decide +kernel, rfl, dX6_seeNextRun_19⟩
theorem sX6_seeNextRun_23 : zk_gs cX6_seeNextRun wsX6_seeNextRun RX6 23 6 0 := ⟨RX6, TX6, 8, 10, rfl, iwX6_seeNextRun_6, by decide, by decide +kernel, rfl, dX6_seeNextRun_23⟩
theorem sX6_seeNextRun_26 : zk_gs cX6_seeNextRun wsX6_seeNextRun RX6 26 5 2 := ⟨RX5, TX5, 6, 71, rfl, iwX6_seeNextRun_5, by decide, by decide +kernel, rfl, dX6_seeNextRun_26⟩
theorem sX6_seeNextRun_32 : zk_gs cX6_seeNextRun wsX6_seeNextRun RX6 32 6 0 := ⟨RX6, TX6, 8, 10, rfl, iwX6_seeNextRun_6, by decide, by decide +kernel, rfl, dX6_seeNextRun_32⟩
theorem sX6_seeNextRun_35 : zk_gs cX6_seeNextRun wsX6_seeNextRun RX6 35 5 2 := ⟨RX5, TX5, 6, 71, rfl, iwX6_seeNextRun_5, by decide, by decide +kernel, rfl, dX6_seeNextRun_35⟩
theorem hdX6_settled : yX6_settled.cls = RX6 ∧ yX6_settled.cls ≠ "java/lang/invoke/MethodHandle" ∧ yX6_settled.cls ≠ "java/lang/invoke/VarHandle" ∧ (parseMethodDescriptor yX6_settled.desc).map (fun d => d.parameters.length) = some 1 := by decide +kernel
theorem iwX6_settled_1 : ∀ w ∈ wsX10, w ∈ wsX6_settled := fun _ h => List.mem_cons_of_mem _ (List.mem_append_left _ (List.mem_append_left _ (List.mem_append_left _ (List.mem_append_left _ (List.mem_append_right _ h)))))
theorem iwX6_settled_2 : ∀ w ∈ wsX20, w ∈ wsX6_settled := fun _ h => List.mem_cons_of_mem _ (List.mem_append_left _ (List.mem_append_left _ (List.mem_append_left _ (List.mem_append_right _ h))))
theorem iwX6_settled_6 : ∀ w ∈ wsX60, w ∈ wsX6_settled := fun _ h => List.mem_cons_of_mem _ (List.mem_append_left _ (List.mem_append_left _ (List.mem_append_left _ (List.mem_append_left _ (List.mem_append_left _ (List.mem_append_right _ h))))))
theorem sX6_settled_13 : zk_gs cX6_settled wsX6_settled RX6 13 6 6 := ⟨RX6, TX6, 8, 43, rfl, iwX6_settled_6, by decide, by decide +kernel, rfl, dX6_settled_13⟩
theorem sX6_settled_17 : zk_gs cX6_settled wsX6_settled RX6 17 6 0 := ⟨RX6, TX6, 8, 10, rfl, iwX6_settled_6, by decide, by decide +kernel, rfl, dX6_settled_17⟩
theorem sX6_settled_21 : zk_gs cX6_settled wsX6_settled RX6 21 6 4 := ⟨RX6, TX6, 8, 29, rfl, iwX6_settled_6, by decide, by decide +kernel, rfl, dX6_settled_21⟩
theorem sX6_settled_61 : zk_gs cX6_settled wsX6_settled RX6 61 6 6 := ⟨RX6, TX6, 8, 43, rfl, iwX6_settled_6, by decide, by decide +kernel, rfl, dX6_settled_61⟩
theorem sX6_settled_64 : zk_gs cX6_settled wsX6_settled RX6 64 1 5 := ⟨RX1, TX1, 7, 130, rfl, iwX6_settled_1, by decide, by decide +kernel, rfl, dX6_settled_64⟩
theorem sX6_settled_69 : zk_gs cX6_settled wsX6_settled RX6 69 6 6 := ⟨RX6, TX6, 8, 43, rfl, iwX6_settled_6, by decide, by decide +kernel, rfl, dX6_settled_69⟩
theorem sX6_settled_72 : zk_gs cX6_settled wsX6_settled RX6 72 1 6 := ⟨RX1, TX1, 7, 133, rfl, iwX6_settled_1, by decide, by decide +kernel, rfl, dX6_settled_72⟩
theorem sX6_settled_77 : zk_gs cX6_settled wsX6_settled RX6 77 6 6 := ⟨RX6, TX6, 8, 43, rfl, iwX6_settled_6, by decide, by decide +kernel, rfl, dX6_settled_77⟩
theorem sX6_settled_80 : zk_gs cX6_settled wsX6_settled RX6 80 1 1 := ⟨RX1, TX1, 7, 136, rfl, iwX6_settled_1, by decide, by decide +kernel, rfl, dX6_settled_80⟩
theorem sX6_settled_83 : zk_gs cX6_settled wsX6_settled RX6 83 2 0 := ⟨RX2, TX2, 4, 103, rfl, iwX6_settled_2, by decide, by decide +kernel, rfl, dX6_settled_83⟩
theorem sX6_settled_88 : zk_gs cX6_settled wsX6_settled RX6 88 6 6 := ⟨RX6, TX6, 8, 43, rfl, iwX6_settled_6, by decide, by decide +kernel, rfl, dX6_settled_88⟩
theorem sX6_settled_91 : zk_gs cX6_settled wsX6_settled RX6 91 1 1 := ⟨RX1, TX1, 7, 136, rfl, iwX6_settled_1, by decide, by decide +kernel, rfl, dX6_settled_91⟩
theorem sX6_settled_94 : zk_gs cX6_settled wsX6_settled RX6 94 2 1 := ⟨RX2, TX2, 4, 139, rfl, iwX6_settled_2, by decide, by decide +kernel, rfl, dX6_settled_94⟩
theorem hdX6_table : yX6_table.cls = RX6 ∧ yX6_table.cls ≠ "java/lang/invoke/MethodHandle" ∧ yX6_table.cls ≠ "java/lang/invoke/VarHandle" ∧ (parseMethodDescriptor yX6_table.desc).map (fun d => d.parameters.length) = some 2 := by decide +kernel
theorem iwX6_table_5 : ∀ w ∈ wsX50, w ∈ wsX6_table := fun _ h => List.mem_cons_of_mem _ (List.mem_append_right _ h)
theorem iwX6_table_6 : ∀ w ∈ wsX60, w ∈ wsX6_table := fun _ h => List.mem_cons_of_mem _ (List.mem_append_left _ (List.mem_append_right _ h))
theorem sX6_table_27 : zk_gs cX6_table wsX6_table RX6 27 6 0 := ⟨RX6, TX6, 8, 10, rfl, iwX6_table_6, by decide, by decide +kernel, rfl, dX6_table_27⟩
theorem sX6_table_30 : zk_gs cX6_table wsX6_table RX6 30 5 1 := ⟨RX5, TX5, 6, 62, rfl, iwX6_table_5, by decide, by decide +kernel, rfl, dX6_table_30⟩
theorem sX6_table_37 : zk_gs cX6_table wsX6_table RX6 37 6 0 := ⟨RX6, TX6, 8, 10, rfl, iwX6_table_6, by decide, by decide +kernel, rfl, dX6_table_37⟩
theorem sX6_table_40 : zk_gs cX6_table wsX6_table RX6 40 5 1 := ⟨RX5, TX5, 6, 62, rfl, iwX6_table_5, by decide, by decide +kernel, rfl, dX6_table_40⟩
theorem hdX6_take : yX6_take.cls = RX6 ∧ yX6_take.cls ≠ "java/lang/invoke/MethodHandle" ∧ yX6_take.cls ≠ "java/lang/invoke/VarHandle" ∧ (parseMethodDescriptor yX6_take.desc).map (fun d => d.parameters.length) = some 0 := by decide +kernel
theorem iwX6_take_0 : ∀ w ∈ wsX00, w ∈ wsX6_take := fun _ h => List.mem_cons_of_mem _ (List.mem_append_left _ (List.mem_append_left _ (List.mem_append_left _ (List.mem_append_left _ (List.mem_append_right _ h)))))
theorem iwX6_take_5 : ∀ w ∈ wsX50, w ∈ wsX6_take := fun _ h => List.mem_cons_of_mem _ (List.mem_append_left _ (List.mem_append_left _ (List.mem_append_left _ (List.mem_append_right _ h))))
theorem iwX6_take_6 : ∀ w ∈ wsX60, w ∈ wsX6_take := fun _ h => List.mem_cons_of_mem _ (List.mem_append_left _ (List.mem_append_left _ (List.mem_append_left _ (List.mem_append_left _ (List.mem_append_left _ (List.mem_append_right _ h))))))
theorem sX6_take_1 : zk_gs cX6_take wsX6_take RX6 1 6 5 := ⟨RX6, TX6, 8, 36, rfl, iwX6_take_6, by decide, by decide +kernel, rfl, dX6_take_1⟩
theorem sX6_take_5 : zk_gs cX6_take wsX6_take RX6 5 6 0 := ⟨RX6, TX6, 8, 10, rfl, iwX6_take_6, by decide, by decide +kernel, rfl, dX6_take_5⟩
theorem sX6_take_9 : zk_gs cX6_take wsX6_take RX6 9 6 4 := ⟨RX6, TX6, 8, 29, rfl, iwX6_take_6, by decide, by decide +kernel, rfl, dX6_take_9⟩
theorem sX6_take_16 : zk_gs cX6_take wsX6_take RX6 16 6 5 := ⟨RX6, TX6, 8, 36, rfl, iwX6_take_6, by decide, by decide +kernel, rfl, dX6_take_16⟩
theorem sX6_take_19 : zk_gs cX6_take wsX6_take RX6 19 0 0 := ⟨RX0, TX0, 5, 146, rfl, iwX6_take_0, by decide, by decide +kernel, rfl, dX6_take_19⟩
theorem sX6_take_29 : zk_gs cX6_take wsX6_take RX6 29 6 0 := ⟨RX6, TX6, 8, 10, rfl, iwX6_take_6, by decide, by decide +kernel, rfl, dX6_take_29⟩
theorem sX6_take_32 : zk_gs cX6_take wsX6_take RX6 32 5 2 := ⟨RX5, TX5, 6, 71, rfl, iwX6_take_5, by decide, by decide +kernel, rfl, dX6_take_32⟩
theorem sX6_take_37 : zk_gs cX6_take wsX6_take RX6 37 6 5 := ⟨RX6, TX6, 8, 36, rfl, iwX6_take_6, by decide, by decide +kernel, rfl, dX6_take_37⟩
theorem sX6_take_40 : zk_gs cX6_take wsX6_take RX6 40 0 1 := ⟨RX0, TX0, 5, 150, rfl, iwX6_take_0, by decide, by decide +kernel, rfl, dX6_take_40⟩
theorem sX6_take_45 : zk_gs cX6_take wsX6_take RX6 45 6 0 := ⟨RX6, TX6, 8, 10, rfl, iwX6_take_6, by decide, by decide +kernel, rfl, dX6_take_45⟩
theorem sX6_take_48 : zk_gs cX6_take wsX6_take RX6 48 5 2 := ⟨RX5, TX5, 6, 71, rfl, iwX6_take_5, by decide, by decide +kernel, rfl, dX6_take_48⟩
theorem sX6_take_53 : zk_gs cX6_take wsX6_take RX6 53 6 5 := ⟨RX6, TX6, 8, 36, rfl, iwX6_take_6, by decide, by decide +kernel, rfl, dX6_take_53⟩
theorem sX6_take_56 : zk_gs cX6_take wsX6_take RX6 56 0 2 := ⟨RX0, TX0, 5, 153, rfl, iwX6_take_0, by decide, by decide +kernel, rfl, dX6_take_56⟩
theorem sX6_take_61 : zk_gs cX6_take wsX6_take RX6 61 6 5 := ⟨RX6, TX6, 8, 36, rfl, iwX6_take_6, by decide, by decide +kernel, rfl, dX6_take_61⟩
theorem sX6_take_64 : zk_gs cX6_take wsX6_take RX6 64 0 3 := ⟨RX0, TX0, 5, 156, rfl, iwX6_take_0, by decide, by decide +kernel, rfl, dX6_take_64⟩
theorem hdX6_wash : yX6_wash.cls = RX6 ∧ yX6_wash.cls ≠ "java/lang/invoke/MethodHandle" ∧ yX6_wash.cls ≠ "java/lang/invoke/VarHandle" ∧ (parseMethodDescriptor yX6_wash.desc).map (fun d => d.parameters.length) = some 4 := by decide +kernel
theorem iwX6_wash_5 : ∀ w ∈ wsX50, w ∈ wsX6_wash := fun _ h => List.mem_cons_of_mem _ (List.mem_append_right _ h)
theorem iwX6_wash_6 : ∀ w ∈ wsX60, w ∈ wsX6_wash := fun _ h => List.mem_cons_of_mem _ (List.mem_append_left _ (List.mem_append_right _ h))
theorem sX6_wash_46 : zk_gs cX6_wash wsX6_wash RX6 46 6 0 := ⟨RX6, TX6, 8, 10, rfl, iwX6_wash_6, by decide, by decide +kernel, rfl, dX6_wash_46⟩
theorem sX6_wash_49 : zk_gs cX6_wash wsX6_wash RX6 49 5 0 := ⟨RX5, TX5, 6, 58, rfl, iwX6_wash_5, by decide, by decide +kernel, rfl, dX6_wash_49⟩
theorem sX6_wash_57 : zk_gs cX6_wash wsX6_wash RX6 57 6 0 := ⟨RX6, TX6, 8, 10, rfl, iwX6_wash_6, by decide, by decide +kernel, rfl, dX6_wash_57⟩
theorem sX6_wash_60 : zk_gs cX6_wash wsX6_wash RX6 60 5 0 := ⟨RX5, TX5, 6, 58, rfl, iwX6_wash_5, by decide, by decide +kernel, rfl, dX6_wash_60⟩
theorem sX6_wash_67 : zk_gs cX6_wash wsX6_wash RX6 67 6 0 := ⟨RX6, TX6, 8, 10, rfl, iwX6_wash_6, by decide, by decide +kernel, rfl, dX6_wash_67⟩
theorem sX6_wash_70 : zk_gs cX6_wash wsX6_wash RX6 70 5 0 := ⟨RX5, TX5, 6, 58, rfl, iwX6_wash_5, by decide, by decide +kernel, rfl, dX6_wash_70⟩
theorem sX6_wash_77 : zk_gs cX6_wash wsX6_wash RX6 77 6 0 := ⟨RX6, TX6, 8, 10, rfl, iwX6_wash_6, by decide, by decide +kernel, rfl, dX6_wash_77⟩
theorem sX6_wash_80 : zk_gs cX6_wash wsX6_wash RX6 80 5 0 := ⟨RX5, TX5, 6, 58, rfl, iwX6_wash_5, by decide, by decide +kernel, rfl, dX6_wash_80⟩
theorem sX6_wash_87 : zk_gs cX6_wash wsX6_wash RX6 87 6 0 := ⟨RX6, TX6, 8, 10, rfl, iwX6_wash_6, by decide, by decide +kernel, rfl, dX6_wash_87⟩
theorem sX6_wash_90 : zk_gs cX6_wash wsX6_wash RX6 90 5 0 := ⟨RX5, TX5, 6, 58, rfl, iwX6_wash_5, by decide, by decide +kernel, rfl, dX6_wash_90⟩
theorem hdX6_weed : yX6_weed.cls = RX6 ∧ yX6_weed.cls ≠ "java/lang/invoke/MethodHandle" ∧ yX6_weed.cls ≠ "java/lang/invoke/VarHandle" ∧ (parseMethodDescriptor yX6_weed.desc).map (fun d => d.parameters.length) = some 1 := by decide +kernel
theorem iwX6_weed_3 : ∀ w ∈ wsX30, w ∈ wsX6_weed := fun _ h => List.mem_cons_of_mem _ (List.mem_append_left _ (List.mem_append_right _ h))
theorem iwX6_weed_5 : ∀ w ∈ wsX50, w ∈ wsX6_weed := fun _ h => List.mem_cons_of_mem _ (List.mem_append_left _ (List.mem_append_left _ (List.mem_append_right _ h)))
theorem iwX6_weed_6 : ∀ w ∈ wsX60, w ∈ wsX6_weed := fun _ h => List.mem_cons_of_mem _ (List.mem_append_left _ (List.mem_append_left _ (List.mem_append_left _ (List.mem_append_right _ h))))
theorem sX6_weed_15 : zk_gs cX6_weed wsX6_weed RX6 15 6 0 := ⟨RX6, TX6, 8, 10, rfl, iwX6_weed_6, by decide, by decide +kernel, rfl, dX6_weed_15⟩
theorem sX6_weed_18 : zk_gs cX6_weed wsX6_weed RX6 18 5 4 := ⟨RX5, TX5, 6, 88, rfl, iwX6_weed_5, by decide, by decide +kernel, rfl, dX6_weed_18⟩
theorem sX6_weed_23 : zk_gs cX6_weed wsX6_weed RX6 23 6 7 := ⟨RX6, TX6, 8, 50, rfl, iwX6_weed_6, by decide, by decide +kernel, rfl, dX6_weed_23⟩
theorem sX6_weed_30 : zk_gs cX6_weed wsX6_weed RX6 30 6 0 := ⟨RX6, TX6, 8, 10, rfl, iwX6_weed_6, by decide, by decide +kernel, rfl, dX6_weed_30⟩
theorem sX6_weed_33 : zk_gs cX6_weed wsX6_weed RX6 33 5 4 := ⟨RX5, TX5, 6, 88, rfl, iwX6_weed_5, by decide, by decide +kernel, rfl, dX6_weed_33⟩
theorem sX6_weed_36 : zk_gs cX6_weed wsX6_weed RX6 36 3 5 := ⟨RX3, TX3, 6, 109, rfl, iwX6_weed_3, by decide, by decide +kernel, rfl, dX6_weed_36⟩
theorem hdX6_within : yX6_within.cls = RX6 ∧ yX6_within.cls ≠ "java/lang/invoke/MethodHandle" ∧ yX6_within.cls ≠ "java/lang/invoke/VarHandle" ∧ (parseMethodDescriptor yX6_within.desc).map (fun d => d.parameters.length) = some 3 := by decide +kernel
