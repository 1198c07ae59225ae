theorem hdX10_node : yX10_node.cls ≠ "java/lang/invoke/MethodHandle" ∧ yX10_node.cls ≠ "java/lang/invoke/VarHandle" ∧ (parseMethodDescriptor yX10_node.desc).map (fun d => d.parameters.length) = some 3 := ⟨hdc_6.1, hdc_6.2, hdd_15⟩
theorem hdX11_node : yX11_node.cls ≠ "java/lang/invoke/MethodHandle" ∧ yX11_node.cls ≠ "java/lang/invoke/VarHandle" ∧ (parseMethodDescriptor yX11_node.desc).map (fun d => d.parameters.length) = some 3 := ⟨hdc_0.1, hdc_0.2, hdd_15⟩
theorem hdX10_pass : yX10_pass.cls ≠ "java/lang/invoke/MethodHandle" ∧ yX10_pass.cls ≠ "java/lang/invoke/VarHandle" ∧ (parseMethodDescriptor yX10_pass.desc).map (fun d => d.parameters.length) = some 5 := ⟨hdc_6.1, hdc_6.2, hdd_58⟩
theorem hdX11_pass : yX11_pass.cls ≠ "java/lang/invoke/MethodHandle" ∧ yX11_pass.cls ≠ "java/lang/invoke/VarHandle" ∧ (parseMethodDescriptor yX11_pass.desc).map (fun d => d.parameters.length) = some 5 := ⟨hdc_0.1, hdc_0.2, hdd_58⟩
theorem hdX10_jar : yX10_jar.cls ≠ "java/lang/invoke/MethodHandle" ∧ yX10_jar.cls ≠ "java/lang/invoke/VarHandle" ∧ (parseMethodDescriptor yX10_jar.desc).map (fun d => d.parameters.length) = some 5 := ⟨hdc_6.1, hdc_6.2, hdd_58⟩
theorem hdX11_jar : yX11_jar.cls ≠ "java/lang/invoke/MethodHandle" ∧ yX11_jar.cls ≠ "java/lang/invoke/VarHandle" ∧ (parseMethodDescriptor yX11_jar.desc).map (fun d => d.parameters.length) = some 5 := ⟨hdc_0.1, hdc_0.2, hdd_58⟩
theorem hdX10_month : yX10_month.cls ≠ "java/lang/invoke/MethodHandle" ∧ yX10_month.cls ≠ "java/lang/invoke/VarHandle" ∧ (parseMethodDescriptor yX10_month.desc).map (fun d => d.parameters.length) = some 1 := ⟨hdc_6.1, hdc_6.2, hdd_3⟩
theorem hdX11_month : yX11_month.cls ≠ "java/lang/invoke/MethodHandle" ∧ yX11_month.cls ≠ "java/lang/invoke/VarHandle" ∧ (parseMethodDescriptor yX11_month.desc).map (fun d => d.parameters.length) = some 1 := ⟨hdc_0.1, hdc_0.2, hdd_3⟩
theorem hdX10_seed : yX10_seed.cls ≠ "java/lang/invoke/MethodHandle" ∧ yX10_seed.cls ≠ "java/lang/invoke/VarHandle" ∧ (parseMethodDescriptor yX10_seed.desc).map (fun d => d.parameters.length) = some 1 := ⟨hdc_6.1, hdc_6.2, hdd_3⟩
theorem hdX11_seed : yX11_seed.cls ≠ "java/lang/invoke/MethodHandle" ∧ yX11_seed.cls ≠ "java/lang/invoke/VarHandle" ∧ (parseMethodDescriptor yX11_seed.desc).map (fun d => d.parameters.length) = some 1 := ⟨hdc_0.1, hdc_0.2, hdd_3⟩
theorem hdX10_feed : yX10_feed.cls ≠ "java/lang/invoke/MethodHandle" ∧ yX10_feed.cls ≠ "java/lang/invoke/VarHandle" ∧ (parseMethodDescriptor yX10_feed.desc).map (fun d => d.parameters.length) = some 5 := ⟨hdc_6.1, hdc_6.2, hdd_58⟩
theorem hdX11_feed : yX11_feed.cls ≠ "java/lang/invoke/MethodHandle" ∧ yX11_feed.cls ≠ "java/lang/invoke/VarHandle" ∧ (parseMethodDescriptor yX11_feed.desc).map (fun d => d.parameters.length) = some 5 := ⟨hdc_0.1, hdc_0.2, hdd_58⟩
theorem hdX10_end : yX10_end.cls ≠ "java/lang/invoke/MethodHandle" ∧ yX10_end.cls ≠ "java/lang/invoke/VarHandle" ∧ (parseMethodDescriptor yX10_end.desc).map (fun d => d.parameters.length) = some 1 := ⟨hdc_6.1, hdc_6.2, hdd_3⟩
theorem hdX11_end : yX11_end.cls ≠ "java/lang/invoke/MethodHandle" ∧ yX11_end.cls ≠ "java/lang/invoke/VarHandle" ∧ (parseMethodDescriptor yX11_end.desc).map (fun d => d.parameters.length) = some 1 := ⟨hdc_0.1, hdc_0.2, hdd_3⟩
theorem hdX10_law : yX10_law.cls ≠ "java/lang/invoke/MethodHandle" ∧ yX10_law.cls ≠ "java/lang/invoke/VarHandle" ∧ (parseMethodDescriptor yX10_law.desc).map (fun d => d.parameters.length) = some 0 := ⟨hdc_6.1, hdc_6.2, hdd_6⟩
theorem hdX11_law : yX11_law.cls ≠ "java/lang/invoke/MethodHandle" ∧ yX11_law.cls ≠ "java/lang/invoke/VarHandle" ∧ (parseMethodDescriptor yX11_law.desc).map (fun d => d.parameters.length) = some 0 := ⟨hdc_0.1, hdc_0.2, hdd_6⟩
theorem hdX10_fill : yX10_fill.cls ≠ "java/lang/invoke/MethodHandle" ∧ yX10_fill.cls ≠ "java/lang/invoke/VarHandle" ∧ (parseMethodDescriptor yX10_fill.desc).map (fun d => d.parameters.length) = some 2 := ⟨hdc_6.1, hdc_6.2, hdd_0⟩
theorem hdX11_fill : yX11_fill.cls ≠ "java/lang/invoke/MethodHandle" ∧ yX11_fill.cls ≠ "java/lang/invoke/VarHandle" ∧ (parseMethodDescriptor yX11_fill.desc).map (fun d => d.parameters.length) = some 2 := ⟨hdc_0.1, hdc_0.2, hdd_0⟩
theorem hdX10_pour : yX10_pour.cls ≠ "java/lang/invoke/MethodHandle" ∧ yX10_pour.cls ≠ "java/lang/invoke/VarHandle" ∧ (parseMethodDescriptor yX10_pour.desc).map (fun d => d.parameters.length) = some 1 := ⟨hdc_6.1, hdc_6.2, hdd_3⟩
theorem hdX11_pour : yX11_pour.cls ≠ "java/lang/invoke/MethodHandle" ∧ yX11_pour.cls ≠ "java/lang/invoke/VarHandle" ∧ (parseMethodDescriptor yX11_pour.desc).map (fun d => d.parameters.length) = some 1 := ⟨hdc_0.1, hdc_0.2, hdd_3⟩
theorem hdX10_store : yX10_store.cls ≠ "java/lang/invoke/MethodHandle" ∧ yX10_store.cls ≠ "java/lang/invoke/VarHandle" ∧ (parseMethodDescriptor yX10_store.desc).map (fun d => d.parameters.length) = some 2 := ⟨hdc_6.1, hdc_6.2, hdd_0⟩
theorem hdX11_store : yX11_store.cls ≠ "java/lang/invoke/MethodHandle" ∧ yX11_store.cls ≠ "java/lang/invoke/VarHandle" ∧ (parseMethodDescriptor yX11_store.desc).map (fun d => d.parameters.length) = some 2 := ⟨hdc_0.1, hdc_0.2, hdd_0⟩
theorem hdX10_leave : yX10_leave.cls ≠ "java/lang/invoke/MethodHandle" ∧ yX10_leave.cls ≠ "java/lang/invoke/VarHandle" ∧ (parseMethodDescriptor yX10_leave.desc).map (fun d => d.parameters.length) = some 2 := ⟨hdc_6.1, hdc_6.2, hdd_4⟩
theorem hdX11_leave : yX11_leave.cls ≠ "java/lang/invoke/MethodHandle" ∧ yX11_leave.cls ≠ "java/lang/invoke/VarHandle" ∧ (parseMethodDescriptor yX11_leave.desc).map (fun d => d.parameters.length) = some 2 := ⟨hdc_0.1, hdc_0.2, hdd_4⟩
theorem hdX10_tick : yX10_tick.cls ≠ "java/lang/invoke/MethodHandle" ∧ yX10_tick.cls ≠ "java/lang/invoke/VarHandle" ∧ (parseMethodDescriptor yX10_tick.desc).map (fun d => d.parameters.length) = some 2 := ⟨hdc_6.1, hdc_6.2, hdd_0⟩
theorem hdX11_tick : yX11_tick.cls ≠ "java/lang/invoke/MethodHandle" ∧ yX11_tick.cls ≠ "java/lang/invoke/VarHandle" ∧ (parseMethodDescriptor yX11_tick.desc).map (fun d => d.parameters.length) = some 2 := ⟨hdc_0.1, hdc_0.2, hdd_0⟩
theorem hdX10_at : yX10_at.cls ≠ "java/lang/invoke/MethodHandle" ∧ yX10_at.cls ≠ "java/lang/invoke/VarHandle" ∧ (parseMethodDescriptor yX10_at.desc).map (fun d => d.parameters.length) = some 2 := ⟨hdc_6.1, hdc_6.2, hdd_0⟩
theorem hdX11_at : yX11_at.cls ≠ "java/lang/invoke/MethodHandle" ∧ yX11_at.cls ≠ "java/lang/invoke/VarHandle" ∧ (parseMethodDescriptor yX11_at.desc).map (fun d => d.parameters.length) = some 2 := ⟨hdc_0.1, hdc_0.2, hdd_0⟩
theorem hdX10_of : yX10_of.cls ≠ "java/lang/invoke/MethodHandle" ∧ yX10_of.cls ≠ "java/lang/invoke/VarHandle" ∧ (parseMethodDescriptor yX10_of.desc).map (fun d => d.parameters.length) = some 2 := ⟨hdc_6.1, hdc_6.2, hdd_0⟩
theorem hdX11_of : yX11_of.cls ≠ "java/lang/invoke/MethodHandle" ∧ yX11_of.cls ≠ "java/lang/invoke/VarHandle" ∧ (parseMethodDescriptor yX11_of.desc).map (fun d => d.parameters.length) = some 2 := ⟨hdc_0.1, hdc_0.2, hdd_0⟩
theorem hdX10_melt : yX10_melt.cls ≠ "java/lang/invoke/MethodHandle" ∧ yX10_melt.cls ≠ "java/lang/invoke/VarHandle" ∧ (parseMethodDescriptor yX10_melt.desc).map (fun d => d.parameters.length) = some 2 := ⟨hdc_6.1, hdc_6.2, hdd_0⟩
theorem hdX11_melt : yX11_melt.cls ≠ "java/lang/invoke/MethodHandle" ∧ yX11_melt.cls ≠ "java/lang/invoke/VarHandle" ∧ (parseMethodDescriptor yX11_melt.desc).map (fun d => d.parameters.length) = some 2 := ⟨hdc_0.1, hdc_0.2, hdd_0⟩
theorem hdX10_lay : yX10_lay.cls ≠ "java/lang/invoke/MethodHandle" ∧ yX10_lay.cls ≠ "java/lang/invoke/VarHandle" ∧ (parseMethodDescriptor yX10_lay.desc).map (fun d => d.parameters.length) = some 1 := ⟨hdc_6.1, hdc_6.2, hdd_3⟩
theorem hdX11_lay : yX11_lay.cls ≠ "java/lang/invoke/MethodHandle" ∧ yX11_lay.cls ≠ "java/lang/invoke/VarHandle" ∧ (parseMethodDescriptor yX11_lay.desc).map (fun d => d.parameters.length) = some 1 := ⟨hdc_0.1, hdc_0.2, hdd_3⟩
theorem hdX10_from : yX10_from.cls ≠ "java/lang/invoke/MethodHandle" ∧ yX10_from.cls ≠ "java/lang/invoke/VarHandle" ∧ (parseMethodDescriptor yX10_from.desc).map (fun d => d.parameters.length) = some 1 := ⟨hdc_6.1, hdc_6.2, hdd_1⟩
theorem hdX11_from : yX11_from.cls ≠ "java/lang/invoke/MethodHandle" ∧ yX11_from.cls ≠ "java/lang/invoke/VarHandle" ∧ (parseMethodDescriptor yX11_from.desc).map (fun d => d.parameters.length) = some 1 := ⟨hdc_0.1, hdc_0.2, hdd_1⟩
theorem hdX10_tried : yX10_tried.cls ≠ "java/lang/invoke/MethodHandle" ∧ yX10_tried.cls ≠ "java/lang/invoke/VarHandle" ∧ (parseMethodDescriptor yX10_tried.desc).map (fun d => d.parameters.length) = some 6 := ⟨hdc_6.1, hdc_6.2, hdd_59⟩
theorem hdX11_tried : yX11_tried.cls ≠ "java/lang/invoke/MethodHandle" ∧ yX11_tried.cls ≠ "java/lang/invoke/VarHandle" ∧ (parseMethodDescriptor yX11_tried.desc).map (fun d => d.parameters.length) = some 6 := ⟨hdc_0.1, hdc_0.2, hdd_59⟩
theorem hdX10_best : yX10_best.cls ≠ "java/lang/invoke/MethodHandle" ∧ yX10_best.cls ≠ "java/lang/invoke/VarHandle" ∧ (parseMethodDescriptor yX10_best.desc).map (fun d => d.parameters.length) = some 8 := ⟨hdc_6.1, hdc_6.2, hdd_60⟩
theorem hdX11_best : yX11_best.cls ≠ "java/lang/invoke/MethodHandle" ∧ yX11_best.cls ≠ "java/lang/invoke/VarHandle" ∧ (parseMethodDescriptor yX11_best.desc).map (fun d => d.parameters.length) = some 8 := ⟨hdc_0.1, hdc_0.2, hdd_60⟩
theorem hdX10_soonest : yX10_soonest.cls ≠ "java/lang/invoke/MethodHandle" ∧ yX10_soonest.cls ≠ "java/lang/invoke/VarHandle" ∧ (parseMethodDescriptor yX10_soonest.desc).map (fun d => d.parameters.length) = some 2 := ⟨hdc_6.1, hdc_6.2, hdd_0⟩
theorem hdX11_soonest : yX11_soonest.cls ≠ "java/lang/invoke/MethodHandle" ∧ yX11_soonest.cls ≠ "java/lang/invoke/VarHandle" ∧ (parseMethodDescriptor yX11_soonest.desc).map (fun d => d.parameters.length) = some 2 := ⟨hdc_0.1, hdc_0.2, hdd_0⟩
theorem hdX10_nearest : yX10_nearest.cls ≠ "java/lang/invoke/MethodHandle" ∧ yX10_nearest.cls ≠ "java/lang/invoke/VarHandle" ∧ (parseMethodDescriptor yX10_nearest.desc).map (fun d => d.parameters.length) = some 2 := ⟨hdc_6.1, hdc_6.2, hdd_0⟩
theorem hdX11_nearest : yX11_nearest.cls ≠ "java/lang/invoke/MethodHandle" ∧ yX11_nearest.cls ≠ "java/lang/invoke/VarHandle" ∧ (parseMethodDescriptor yX11_nearest.desc).map (fun d => d.parameters.length) = some 2 := ⟨hdc_0.1, hdc_0.2, hdd_0⟩
theorem hdX10_warmer : yX10_warmer.cls ≠ "java/lang/invoke/MethodHandle" ∧ yX10_warmer.cls ≠ "java/lang/invoke/VarHandle" ∧ (parseMethodDescriptor yX10_warmer.desc).map (fun d => d.parameters.length) = some 6 := ⟨hdc_6.1, hdc_6.2, hdd_59⟩
theorem hdX11_warmer : yX11_warmer.cls ≠ "java/lang/invoke/MethodHandle" ∧ yX11_warmer.cls ≠ "java/lang/invoke/VarHandle" ∧ (parseMethodDescriptor yX11_warmer.desc).map (fun d => d.parameters.length) = some 6 := ⟨hdc_0.1, hdc_0.2, hdd_59⟩
theorem hdX10_guess : yX10_guess.cls ≠ "java/lang/invoke/MethodHandle" ∧ yX10_guess.cls ≠ "java/lang/invoke/VarHandle" ∧ (parseMethodDescriptor yX10_guess.desc).map (fun d => d.parameters.length) = some 9 := ⟨hdc_6.1, hdc_6.2, hdd_61⟩
theorem hdX11_guess : yX11_guess.cls ≠ "java/lang/invoke/MethodHandle" ∧ yX11_guess.cls ≠ "java/lang/invoke/VarHandle" ∧ (parseMethodDescriptor yX11_guess.desc).map (fun d => d.parameters.length) = some 9 := ⟨hdc_0.1, hdc_0.2, hdd_61⟩
theorem hdX10_order : yX10_order.cls ≠ "java/lang/invoke/MethodHandle" ∧ yX10_order.cls ≠ "java/lang/invoke/VarHandle" ∧ (parseMethodDescriptor yX10_order.desc).map (fun d => d.parameters.length) = some 4 := ⟨hdc_6.1, hdc_6.2, hdd_62⟩
theorem hdX11_order : yX11_order.cls ≠ "java/lang/invoke/MethodHandle" ∧ yX11_order.cls ≠ "java/lang/invoke/VarHandle" ∧ (parseMethodDescriptor yX11_order.desc).map (fun d => d.parameters.length) = some 4 := ⟨hdc_0.1, hdc_0.2, hdd_62⟩
theorem hdX10_serves : yX10_serves.cls ≠ "java/lang/invoke/MethodHandle" ∧ yX10_serves.cls ≠ "java/lang/invoke/VarHandle" ∧ (parseMethodDescriptor yX10_serves.desc).map (fun d => d.parameters.length) = some 3 := ⟨hdc_6.1, hdc_6.2, hdd_15⟩
theorem hdX11_serves : yX11_serves.cls ≠ "java/lang/invoke/MethodHandle" ∧ yX11_serves.cls ≠ "java/lang/invoke/VarHandle" ∧ (parseMethodDescriptor yX11_serves.desc).map (fun d => d.parameters.length) = some 3 := ⟨hdc_0.1, hdc_0.2, hdd_15⟩
theorem hdX10_all : yX10_all.cls ≠ "java/lang/invoke/MethodHandle" ∧ yX10_all.cls ≠ "java/lang/invoke/VarHandle" ∧ (parseMethodDescriptor yX10_all.desc).map (fun d => d.parameters.length) = some 2 := ⟨hdc_6.1, hdc_6.2, hdd_0⟩
theorem hdX11_all : yX11_all.cls ≠ "java/lang/invoke/MethodHandle" ∧ yX11_all.cls ≠ "java/lang/invoke/VarHandle" ∧ (parseMethodDescriptor yX11_all.desc).map (fun d => d.parameters.length) = some 2 := ⟨hdc_0.1, hdc_0.2, hdd_0⟩
theorem hdX10_feast : yX10_feast.cls ≠ "java/lang/invoke/MethodHandle" ∧ yX10_feast.cls ≠ "java/lang/invoke/VarHandle" ∧ (parseMethodDescriptor yX10_feast.desc).map (fun d => d.parameters.length) = some 3 := ⟨hdc_6.1, hdc_6.2, hdd_15⟩
theorem hdX11_feast : yX11_feast.cls ≠ "java/lang/invoke/MethodHandle" ∧ yX11_feast.cls ≠ "java/lang/invoke/VarHandle" ∧ (parseMethodDescriptor yX11_feast.desc).map (fun d => d.parameters.length) = some 3 := ⟨hdc_0.1, hdc_0.2, hdd_15⟩
theorem hdX10_enough : yX10_enough.cls ≠ "java/lang/invoke/MethodHandle" ∧ yX10_enough.cls ≠ "java/lang/invoke/VarHandle" ∧ (parseMethodDescriptor yX10_enough.desc).map (fun d => d.parameters.length) = some 3 := ⟨hdc_6.1, hdc_6.2, hdd_15⟩
theorem hdX11_enough : yX11_enough.cls ≠ "java/lang/invoke/MethodHandle" ∧ yX11_enough.cls ≠ "java/lang/invoke/VarHandle" ∧ (parseMethodDescriptor yX11_enough.desc).map (fun d => d.parameters.length) = some 3 := ⟨hdc_0.1, hdc_0.2, hdd_15⟩
theorem hdX10_least : yX10_least.cls ≠ "java/lang/invoke/MethodHandle" ∧ yX10_least.cls ≠ "java/lang/invoke/VarHandle" ∧ (parseMethodDescriptor yX10_least.desc).map (fun d => d.parameters.length) = some 2 := ⟨hdc_6.1, hdc_6.2, hdd_0⟩
theorem hdX11_least : yX11_least.cls ≠ "java/lang/invoke/MethodHandle" ∧ yX11_least.cls ≠ "java/lang/invoke/VarHandle" ∧ (parseMethodDescriptor yX11_least.desc).map (fun d => d.parameters.length) = some 2 := ⟨hdc_0.1, hdc_0.2, hdd_0⟩
theorem hdX10_nights : yX10_nights.cls ≠ "java/lang/invoke/MethodHandle" ∧ yX10_nights.cls ≠ "java/lang/invoke/VarHandle" ∧ (parseMethodDescriptor yX10_nights.desc).map (fun d => d.parameters.length) = some 5 := ⟨hdc_6.1, hdc_6.2, hdd_58⟩
theorem hdX11_nights : yX11_nights.cls ≠ "java/lang/invoke/MethodHandle" ∧ yX11_nights.cls ≠ "java/lang/invoke/VarHandle" ∧ (parseMethodDescriptor yX11_nights.desc).map (fun d => d.parameters.length) = some 5 := ⟨hdc_0.1, hdc_0.2, hdd_58⟩
theorem hdX10_price : yX10_price.cls ≠ "java/lang/invoke/MethodHandle" ∧ yX10_price.cls ≠ "java/lang/invoke/VarHandle" ∧ (parseMethodDescriptor yX10_price.desc).map (fun d => d.parameters.length) = some 6 := ⟨hdc_6.1, hdc_6.2, hdd_59⟩
theorem hdX11_price : yX11_price.cls ≠ "java/lang/invoke/MethodHandle" ∧ yX11_price.cls ≠ "java/lang/invoke/VarHandle" ∧ (parseMethodDescriptor yX11_price.desc).map (fun d => d.parameters.length) = some 6 := ⟨hdc_0.1, hdc_0.2, hdd_59⟩
theorem hdX10_ahead : yX10_ahead.cls ≠ "java/lang/invoke/MethodHandle" ∧ yX10_ahead.cls ≠ "java/lang/invoke/VarHandle" ∧ (parseMethodDescriptor yX10_ahead.desc).map (fun d => d.parameters.length) = some 3 := ⟨hdc_6.1, hdc_6.2, hdd_15⟩
theorem hdX11_ahead : yX11_ahead.cls ≠ "java/lang/invoke/MethodHandle" ∧ yX11_ahead.cls ≠ "java/lang/invoke/VarHandle" ∧ (parseMethodDescriptor yX11_ahead.desc).map (fun d => d.parameters.length) = some 3 := ⟨hdc_0.1, hdc_0.2, hdd_15⟩
theorem hdX10_count : yX10_count.cls ≠ "java/lang/invoke/MethodHandle" ∧ yX10_count.cls ≠ "java/lang/invoke/VarHandle" ∧ (parseMethodDescriptor yX10_count.desc).map (fun d => d.parameters.length) = some 1 := ⟨hdc_6.1, hdc_6.2, hdd_3⟩
theorem hdX11_count : yX11_count.cls ≠ "java/lang/invoke/MethodHandle" ∧ yX11_count.cls ≠ "java/lang/invoke/VarHandle" ∧ (parseMethodDescriptor yX11_count.desc).map (fun d => d.parameters.length) = some 1 := ⟨hdc_0.1, hdc_0.2, hdd_3⟩
theorem hdX10_image : yX10_image.cls ≠ "java/lang/invoke/MethodHandle" ∧ yX10_image.cls ≠ "java/lang/invoke/VarHandle" ∧ (parseMethodDescriptor yX10_image.desc).map (fun d => d.parameters.length) = some 1 := ⟨hdc_6.1, hdc_6.2, hdd_3⟩
theorem hdX11_image : yX11_image.cls ≠ "java/lang/invoke/MethodHandle" ∧ yX11_image.cls ≠ "java/lang/invoke/VarHandle" ∧ (parseMethodDescriptor yX11_image.desc).map (fun d => d.parameters.length) = some 1 := ⟨hdc_0.1, hdc_0.2, hdd_3⟩
theorem hdX10_back : yX10_back.cls ≠ "java/lang/invoke/MethodHandle" ∧ yX10_back.cls ≠ "java/lang/invoke/VarHandle" ∧ (parseMethodDescriptor yX10_back.desc).map (fun d => d.parameters.length) = some 1 := ⟨hdc_6.1, hdc_6.2, hdd_3⟩
theorem hdX11_back : yX11_back.cls ≠ "java/lang/invoke/MethodHandle" ∧ yX11_back.cls ≠ "java/lang/invoke/VarHandle" ∧ (parseMethodDescriptor yX11_back.desc).map (fun d => d.parameters.length) = some 1 := ⟨hdc_0.1, hdc_0.2, hdd_3⟩
def dtL_law_64_0 : List (Nat × Jvm.ClassFile.Instr × Nat) := [(192, .aload_n 1, 1), (193, .aload_n 0, 1), (194, .iload_n 3, 1), (195, .iconst 1, 1), (196, .iadd, 1), (197, .iaload, 1), (198, .aload_n 0, 1), (199, .iload_n 3, 1), (200, .iconst 2, 1), (201, .iadd, 1), (202, .iaload, 1), (203, .aload_n 0, 1), (204, .iload_n 3, 1), (205, .iconst 3, 1), (206, .iadd, 1), (207, .iaload, 1), (208, .invokevirtual 13, 3), (211, .pop, 1), (212, .aload_n 2, 1), (213, .aload_n 0, 1), (214, .iload_n 3, 1), (215, .iconst 1, 1), (216, .iadd, 1), (217, .iaload, 1), (218, .aload_n 0, 1), (219, .iload_n 3, 1), (220, .iconst 2, 1), (221, .iadd, 1), (222, .iaload, 1), (223, .aload_n 0, 1), (224, .iload_n 3, 1), (225, .iconst 3, 1)]
theorem daL_law_64_0 : dtL_law_64_0.all (dqd cL_law) = true := by decide +kernel
theorem dL_law_192 : decode cL_law 192 = .ok (.aload_n 1, 1) := dq daL_law_64_0 0 rfl
theorem dL_law_193 : decode cL_law 193 = .ok (.aload_n 0, 1) := dq daL_law_64_0 1 rfl
theorem dL_law_194 : decode cL_law 194 = .ok (.iload_n 3, 1) := dq daL_law_64_0 2 rfl
theorem dL_law_195 : decode cL_law 195 = .ok (.iconst 1, 1) := dq daL_law_64_0 3 rfl
theorem dL_law_196 : decode cL_law 196 = .ok (.iadd, 1) := dq daL_law_64_0 4 rfl
theorem dL_law_197 : decode cL_law 197 = .ok (.iaload, 1) := dq daL_law_64_0 5 rfl
theorem dL_law_198 : decode cL_law 198 = .ok (.aload_n 0, 1) := dq daL_law_64_0 6 rfl
theorem dL_law_199 : decode cL_law 199 = .ok (.iload_n 3, 1) := dq daL_law_64_0 7 rfl
theorem dL_law_200 : decode cL_law 200 = .ok (.iconst 2, 1) := dq daL_law_64_0 8 rfl
theorem dL_law_201 : decode cL_law 201 = .ok (.iadd, 1) := dq daL_law_64_0 9 rfl
theorem dL_law_202 : decode cL_law 202 = .ok (.iaload, 1) := dq daL_law_64_0 10 rfl
theorem dL_law_203 : decode cL_law 203 = .ok (.aload_n 0, 1) := dq daL_law_64_0 11 rfl
theorem dL_law_204 : decode cL_law 204 = .ok (.iload_n 3, 1) := dq daL_law_64_0 12 rfl
theorem dL_law_205 : decode cL_law 205 = .ok (.iconst 3, 1) := dq daL_law_64_0 13 rfl
theorem dL_law_206 : decode cL_law 206 = .ok (.iadd, 1) := dq daL_law_64_0 14 rfl
theorem dL_law_207 : decode cL_law 207 = .ok (.iaload, 1) := dq daL_law_64_0 15 rfl
theorem dL_law_208 : decode cL_law 208 = .ok (.invokevirtual 13, 3) := dq daL_law_64_0 16 rfl
theorem dL_law_211 : decode cL_law 211 = .ok (.pop, 1) := dq daL_law_64_0 17 rfl
theorem dL_law_212 : decode cL_law 212 = .ok (.aload_n 2, 1) := dq daL_law_64_0 18 rfl
theorem dL_law_213 : decode cL_law 213 = .ok (.aload_n 0, 1) := dq daL_law_64_0 19 rfl
theorem dL_law_214 : decode cL_law 214 = .ok (.iload_n 3, 1) := dq daL_law_64_0 20 rfl
theorem dL_law_215 : decode cL_law 215 = .ok (.iconst 1, 1) := dq daL_law_64_0 21 rfl
theorem dL_law_216 : decode cL_law 216 = .ok (.iadd, 1) := dq daL_law_64_0 22 rfl
theorem dL_law_217 : decode cL_law 217 = .ok (.iaload, 1) := dq daL_law_64_0 23 rfl
theorem dL_law_218 : decode cL_law 218 = .ok (.aload_n 0, 1) := dq daL_law_64_0 24 rfl
theorem dL_law_219 : decode cL_law 219 = .ok (.iload_n 3, 1) := dq daL_law_64_0 25 rfl
theorem dL_law_220 : decode cL_law 220 = .ok (.iconst 2, 1) := dq daL_law_64_0 26 rfl
theorem dL_law_221 : decode cL_law 221 = .ok (.iadd, 1) := dq daL_law_64_0 27 rfl
theorem dL_law_222 : decode cL_law 222 = .ok (.iaload, 1) := dq daL_law_64_0 28 rfl
theorem dL_law_223 : decode cL_law 223 = .ok (.aload_n 0, 1) := dq daL_law_64_0 29 rfl
theorem dL_law_224 : decode cL_law 224 = .ok (.iload_n 3, 1) := dq daL_law_64_0 30 rfl
theorem dL_law_225 : decode cL_law 225 = .ok (.iconst 3, 1) := dq daL_law_64_0 31 rfl
def dtL_law_64_1 : List (Nat × Jvm.ClassFile.Instr × Nat) := [(226, .iadd, 1), (227, .iaload, 1), (228, .invokevirtual 17, 3), (231, .pop, 1), (232, .goto 1498, 3), (235, .aload_n 1, 1), (236, .aload_n 0, 1), (237, .iload_n 3, 1), (238, .iconst 1, 1), (239, .iadd, 1), (240, .iaload, 1), (241, .aload_n 0, 1), (242, .iload_n 3, 1), (243, .iconst 2, 1), (244, .iadd, 1), (245, .iaload, 1), (246, .aload_n 0, 1), (247, .iload_n 3, 1), (248, .iconst 3, 1), (249, .iadd, 1), (250, .iaload, 1), (251, .aload_n 0, 1), (252, .iload_n 3, 1), (253, .iconst 4, 1), (254, .iadd, 1), (255, .iaload, 1), (256, .aload_n 0, 1), (257, .iload_n 3, 1), (258, .iconst 5, 1), (259, .iadd, 1), (260, .iaload, 1), (261, .invokevirtual 18, 3)]
theorem daL_law_64_1 : dtL_law_64_1.all (dqd cL_law) = true := by decide +kernel
theorem dL_law_226 : decode cL_law 226 = .ok (.iadd, 1) := dq daL_law_64_1 0 rfl
theorem dL_law_227 : decode cL_law 227 = .ok (.iaload, 1) := dq daL_law_64_1 1 rfl
theorem dL_law_228 : decode cL_law 228 = .ok (.invokevirtual 17, 3) := dq daL_law_64_1 2 rfl
theorem dL_law_231 : decode cL_law 231 = .ok (.pop, 1) := dq daL_law_64_1 3 rfl
theorem dL_law_232 : decode cL_law 232 = .ok (.goto 1498, 3) := dq daL_law_64_1 4 rfl
theorem dL_law_235 : decode cL_law 235 = .ok (.aload_n 1, 1) := dq daL_law_64_1 5 rfl
theorem dL_law_236 : decode cL_law 236 = .ok (.aload_n 0, 1) := dq daL_law_64_1 6 rfl
theorem dL_law_237 : decode cL_law 237 = .ok (.iload_n 3, 1) := dq daL_law_64_1 7 rfl
theorem dL_law_238 : decode cL_law 238 = .ok (.iconst 1, 1) := dq daL_law_64_1 8 rfl
theorem dL_law_239 : decode cL_law 239 = .ok (.iadd, 1) := dq daL_law_64_1 9 rfl
theorem dL_law_240 : decode cL_law 240 = .ok (.iaload, 1) := dq daL_law_64_1 10 rfl
theorem dL_law_241 : decode cL_law 241 = .ok (.aload_n 0, 1) := dq daL_law_64_1 11 rfl
theorem dL_law_242 : decode cL_law 242 = .ok (.iload_n 3, 1) := dq daL_law_64_1 12 rfl
theorem dL_law_243 : decode cL_law 243 = .ok (.iconst 2, 1) := dq daL_law_64_1 13 rfl
theorem dL_law_244 : decode cL_law 244 = .ok (.iadd, 1) := dq daL_law_64_1 14 rfl
theorem dL_law_245 : decode cL_law 245 = .ok (.iaload, 1) := dq daL_law_64_1 15 rfl
theorem dL_law_246 : decode cL_law 246 = .ok (.aload_n 0, 1) := dq daL_law_64_1 16 rfl
theorem dL_law_247 : decode cL_law 247 = .ok (.iload_n 3, 1) := dq daL_law_64_1 17 rfl
theorem dL_law_248 : decode cL_law 248 = .ok (.iconst 3, 1) := dq daL_law_64_1 18 rfl
theorem dL_law_249 : decode cL_law 249 = .ok (.iadd, 1) := dq daL_law_64_1 19 rfl
theorem dL_law_250 : decode cL_law 250 = .ok (.iaload, 1) := dq daL_law_64_1 20 rfl
theorem dL_law_251 : decode cL_law 251 = .ok (.aload_n 0, 1) := dq daL_law_64_1 21 rfl
theorem dL_law_252 : decode cL_law 252 = .ok (.iload_n 3, 1) := dq daL_law_64_1 22 rfl
theorem dL_law_253 : decode cL_law 253 = .ok (.iconst 4, 1) := dq daL_law_64_1 23 rfl
theorem dL_law_254 : decode cL_law 254 = .ok (.iadd, 1) := dq daL_law_64_1 24 rfl
theorem dL_law_255 : decode cL_law 255 = .ok (.iaload, 1) := dq daL_law_64_1 25 rfl
theorem dL_law_256 : decode cL_law 256 = .ok (.aload_n 0, 1) := dq daL_law_64_1 26 rfl
theorem dL_law_257 : decode cL_law 257 = .ok (.iload_n 3, 1) := dq daL_law_64_1 27 rfl
theorem dL_law_258 : decode cL_law 258 = .ok (.iconst 5, 1) := dq daL_law_64_1 28 rfl
theorem dL_law_259 : decode cL_law 259 = .ok (.iadd, 1) := dq daL_law_64_1 29 rfl
theorem dL_law_260 : decode cL_law 260 = .ok (.iaload, 1) := dq daL_law_64_1 30 rfl
theorem dL_law_261 : decode cL_law 261 = .ok (.invokevirtual 18, 3) := dq daL_law_64_1 31 rfl
def dtL_law_64_2 : List (Nat × Jvm.ClassFile.Instr × Nat) := [(264, .pop, 1), (265, .aload_n 2, 1), (266, .aload_n 0, 1), (267, .iload_n 3, 1), (268, .iconst 1, 1), (269, .iadd, 1), (270, .iaload, 1), (271, .aload_n 0, 1), (272, .iload_n 3, 1), (273, .iconst 2, 1), (274, .iadd, 1), (275, .iaload, 1), (276, .aload_n 0, 1), (277, .iload_n 3, 1), (278, .iconst 3, 1), (279, .iadd, 1), (280, .iaload, 1), (281, .aload_n 0, 1), (282, .iload_n 3, 1), (283, .iconst 4, 1), (284, .iadd, 1), (285, .iaload, 1), (286, .aload_n 0, 1), (287, .iload_n 3, 1), (288, .iconst 5, 1), (289, .iadd, 1), (290, .iaload, 1), (291, .invokevirtual 22, 3), (294, .pop, 1), (295, .goto 1435, 3), (298, .aload_n 1, 1), (299, .aload_n 0, 1)]
theorem daL_law_64_2 : dtL_law_64_2.all (dqd cL_law) = true := by decide +kernel
theorem dL_law_264 : decode cL_law 264 = .ok (.pop, 1) := dq daL_law_64_2 0 rfl
theorem dL_law_265 : decode cL_law 265 = .ok (.aload_n 2, 1) := dq daL_law_64_2 1 rfl
theorem dL_law_266 : decode cL_law 266 = .ok (.aload_n 0, 1) := dq daL_law_64_2 2 rfl
theorem dL_law_267 : decode cL_law 267 = .ok (.iload_n 3, 1) := dq daL_law_64_2 3 rfl
theorem dL_law_268 : decode cL_law 268 = .ok (.iconst 1, 1) := dq daL_law_64_2 4 rfl
theorem dL_law_269 : decode cL_law 269 = .ok (.iadd, 1) := dq daL_law_64_2 5 rfl
theorem dL_law_270 : decode cL_law 270 = .ok (.iaload, 1) := dq daL_law_64_2 6 rfl
theorem dL_law_271 : decode cL_law 271 = .ok (.aload_n 0, 1) := dq daL_law_64_2 7 rfl
theorem dL_law_272 : decode cL_law 272 = .ok (.iload_n 3, 1) := dq daL_law_64_2 8 rfl
theorem dL_law_273 : decode cL_law 273 = .ok (.iconst 2, 1) := dq daL_law_64_2 9 rfl
theorem dL_law_274 : decode cL_law 274 = .ok (.iadd, 1) := dq daL_law_64_2 10 rfl
theorem dL_law_275 : decode cL_law 275 = .ok (.iaload, 1) := dq daL_law_64_2 11 rfl
theorem dL_law_276 : decode cL_law 276 = .ok (.aload_n 0, 1) := dq daL_law_64_2 12 rfl
theorem dL_law_277 : decode cL_law 277 = .ok (.iload_n 3, 1) := dq daL_law_64_2 13 rfl
theorem dL_law_278 : decode cL_law 278 = .ok (.iconst 3, 1) := dq daL_law_64_2 14 rfl
theorem dL_law_279 : decode cL_law 279 = .ok (.iadd, 1) := dq daL_law_64_2 15 rfl
theorem dL_law_280 : decode cL_law 280 = .ok (.iaload, 1) := dq daL_law_64_2 16 rfl
theorem dL_law_281 : decode cL_law 281 = .ok (.aload_n 0, 1) := dq daL_law_64_2 17 rfl
theorem dL_law_282 : decode cL_law 282 = .ok (.iload_n 3, 1) := dq daL_law_64_2 18 rfl
theorem dL_law_283 : decode cL_law 283 = .ok (.iconst 4, 1) := dq daL_law_64_2 19 rfl
theorem dL_law_284 : decode cL_law 284 = .ok (.iadd, 1) := dq daL_law_64_2 20 rfl
theorem dL_law_285 : decode cL_law 285 = .ok (.iaload, 1) := dq daL_law_64_2 21 rfl
theorem dL_law_286 : decode cL_law 286 = .ok (.aload_n 0, 1) := dq daL_law_64_2 22 rfl
theorem dL_law_287 : decode cL_law 287 = .ok (.iload_n 3, 1) := dq daL_law_64_2 23 rfl
theorem dL_law_288 : decode cL_law 288 = .ok (.iconst 5, 1) := dq daL_law_64_2 24 rfl
theorem dL_law_289 : decode cL_law 289 = .ok (.iadd, 1) := dq daL_law_64_2 25 rfl
theorem dL_law_290 : decode cL_law 290 = .ok (.iaload, 1) := dq daL_law_64_2 26 rfl
theorem dL_law_291 : decode cL_law 291 = .ok (.invokevirtual 22, 3) := dq daL_law_64_2 27 rfl
theorem dL_law_294 : decode cL_law 294 = .ok (.pop, 1) := dq daL_law_64_2 28 rfl
theorem dL_law_295 : decode cL_law 295 = .ok (.goto 1435, 3) := dq daL_law_64_2 29 rfl
theorem dL_law_298 : decode cL_law 298 = .ok (.aload_n 1, 1) := dq daL_law_64_2 30 rfl
theorem dL_law_299 : decode cL_law 299 = .ok (.aload_n 0, 1) := dq daL_law_64_2 31 rfl
def dtL_law_64_3 : List (Nat × Jvm.ClassFile.Instr × Nat) := [(300, .iload_n 3, 1), (301, .iconst 1, 1), (302, .iadd, 1), (303, .iaload, 1), (304, .aload_n 0, 1), (305, .iload_n 3, 1), (306, .iconst 2, 1), (307, .iadd, 1), (308, .iaload, 1), (309, .aload_n 0, 1), (310, .iload_n 3, 1), (311, .iconst 3, 1), (312, .iadd, 1), (313, .iaload, 1), (314, .aload_n 0, 1), (315, .iload_n 3, 1), (316, .iconst 4, 1), (317, .iadd, 1), (318, .iaload, 1), (319, .aload_n 0, 1), (320, .iload_n 3, 1), (321, .iconst 5, 1), (322, .iadd, 1), (323, .iaload, 1), (324, .invokevirtual 23, 3), (327, .pop, 1), (328, .aload_n 2, 1), (329, .aload_n 0, 1), (330, .iload_n 3, 1), (331, .iconst 1, 1), (332, .iadd, 1), (333, .iaload, 1)]
theorem daL_law_64_3 : dtL_law_64_3.all (dqd cL_law) = true := by decide +kernel
theorem dL_law_300 : decode cL_law 300 = .ok (.iload_n 3, 1) := dq daL_law_64_3 0 rfl
theorem dL_law_301 : decode cL_law 301 = .ok (.iconst 1, 1) := dq daL_law_64_3 1 rfl
theorem dL_law_302 : decode cL_law 302 = .ok (.iadd, 1) := dq daL_law_64_3 2 rfl
theorem dL_law_303 : decode cL_law 303 = .ok (.iaload, 1) := dq daL_law_64_3 3 rfl
theorem dL_law_304 : decode cL_law 304 = .ok (.aload_n 0, 1) := dq daL_law_64_3 4 rfl
theorem dL_law_305 : decode cL_law 305 = .ok (.iload_n 3, 1) := dq daL_law_64_3 5 rfl
theorem dL_law_306 : decode cL_law 306 = .ok (.iconst 2, 1) := dq daL_law_64_3 6 rfl
theorem dL_law_307 : decode cL_law 307 = .ok (.iadd, 1) := dq daL_law_64_3 7 rfl
theorem dL_law_308 : decode cL_law 308 = .ok (.iaload, 1) := dq daL_law_64_3 8 rfl
theorem dL_law_309 : decode cL_law 309 = .ok (.aload_n 0, 1) := dq daL_law_64_3 9 rfl
theorem dL_law_310 : decode cL_law 310 = .ok (.iload_n 3, 1) := dq daL_law_64_3 10 rfl
theorem dL_law_311 : decode cL_law 311 = .ok (.iconst 3, 1) := dq daL_law_64_3 11 rfl
theorem dL_law_312 : decode cL_law 312 = .ok (.iadd, 1) := dq daL_law_64_3 12 rfl
theorem dL_law_313 : decode cL_law 313 = .ok (.iaload, 1) := dq daL_law_64_3 13 rfl
theorem dL_law_314 : decode cL_law 314 = .ok (.aload_n 0, 1) := dq daL_law_64_3 14 rfl
theorem dL_law_315 : decode cL_law 315 = .ok (.iload_n 3, 1) := dq daL_law_64_3 15 rfl
theorem dL_law_316 : decode cL_law 316 = .ok (.iconst 4, 1) := dq daL_law_64_3 16 rfl
theorem dL_law_317 : decode cL_law 317 = .ok (.iadd, 1) := dq daL_law_64_3 17 rfl
theorem dL_law_318 : decode cL_law 318 = .ok (.iaload, 1) := dq daL_law_64_3 18 rfl
theorem dL_law_319 : decode cL_law 319 = .ok (.aload_n 0, 1) := dq daL_law_64_3 19 rfl
theorem dL_law_320 : decode cL_law 320 = .ok (.iload_n 3, 1) := dq daL_law_64_3 20 rfl
theorem dL_law_321 : decode cL_law 321 = .ok (.iconst 5, 1) := dq daL_law_64_3 21 rfl
theorem dL_law_322 : decode cL_law 322 = .ok (.iadd, 1) := dq daL_law_64_3 22 rfl
theorem dL_law_323 : decode cL_law 323 = .ok (.iaload, 1) := dq daL_law_64_3 23 rfl
theorem dL_law_324 : decode cL_law 324 = .ok (.invokevirtual 23, 3) := dq daL_law_64_3 24 rfl
theorem dL_law_327 : decode cL_law 327 = .ok (.pop, 1) := dq daL_law_64_3 25 rfl
theorem dL_law_328 : decode cL_law 328 = .ok (.aload_n 2, 1) := dq daL_law_64_3 26 rfl
theorem dL_law_329 : decode cL_law 329 = .ok (.aload_n 0, 1) := dq daL_law_64_3 27 rfl
theorem dL_law_330 : decode cL_law 330 = .ok (.iload_n 3, 1) := dq daL_law_64_3 28 rfl
theorem dL_law_331 : decode cL_law 331 = .ok (.iconst 1, 1) := dq daL_law_64_3 29 rfl
theorem dL_law_332 : decode cL_law 332 = .ok (.iadd, 1) := dq daL_law_64_3 30 rfl
theorem dL_law_333 : decode cL_law 333 = .ok (.iaload, 1) := dq daL_law_64_3 31 rfl
def dtL_law_64_4 : List (Nat × Jvm.ClassFile.Instr × Nat) := [(334, .aload_n 0, 1), (335, .iload_n 3, 1), (336, .iconst 2, 1), (337, .iadd, 1), (338, .iaload, 1), (339, .aload_n 0, 1), (340, .iload_n 3, 1), (341, .iconst 3, 1), (342, .iadd, 1), (343, .iaload, 1), (344, .aload_n 0, 1), (345, .iload_n 3, 1), (346, .iconst 4, 1), (347, .iadd, 1), (348, .iaload, 1), (349, .aload_n 0, 1), (350, .iload_n 3, 1), (351, .iconst 5, 1), (352, .iadd, 1), (353, .iaload, 1), (354, .invokevirtual 26, 3), (357, .pop, 1), (358, .goto 1372, 3), (361, .aload_n 1, 1), (362, .aload_n 0, 1), (363, .iload_n 3, 1), (364, .iconst 1, 1), (365, .iadd, 1), (366, .iaload, 1), (367, .invokevirtual 27, 3), (370, .pop, 1), (371, .aload_n 2, 1)]
theorem daL_law_64_4 : dtL_law_64_4.all (dqd cL_law) = true := by decide +kernel
theorem dL_law_334 : decode cL_law 334 = .ok (.aload_n 0, 1) := dq daL_law_64_4 0 rfl
theorem dL_law_335 : decode cL_law 335 = .ok (.iload_n 3, 1) := dq daL_law_64_4 1 rfl
theorem dL_law_336 : decode cL_law 336 = .ok (.iconst 2, 1) := dq daL_law_64_4 2 rfl
theorem dL_law_337 : decode cL_law 337 = .ok (.iadd, 1) := dq daL_law_64_4 3 rfl
theorem dL_law_338 : decode cL_law 338 = .ok (.iaload, 1) := dq daL_law_64_4 4 rfl
theorem dL_law_339 : decode cL_law 339 = .ok (.aload_n 0, 1) := dq daL_law_64_4 5 rfl
theorem dL_law_340 : decode cL_law 340 = .ok (.iload_n 3, 1) := dq daL_law_64_4 6 rfl
theorem dL_law_341 : decode cL_law 341 = .ok (.iconst 3, 1) := dq daL_law_64_4 7 rfl
theorem dL_law_342 : decode cL_law 342 = .ok (.iadd, 1) := dq daL_law_64_4 8 rfl
theorem dL_law_343 : decode cL_law 343 = .ok (.iaload, 1) := dq daL_law_64_4 9 rfl
theorem dL_law_344 : decode cL_law 344 = .ok (.aload_n 0, 1) := dq daL_law_64_4 10 rfl
theorem dL_law_345 : decode cL_law 345 = .ok (.iload_n 3, 1) := dq daL_law_64_4 11 rfl
theorem dL_law_346 : decode cL_law 346 = .ok (.iconst 4, 1) := dq daL_law_64_4 12 rfl
theorem dL_law_347 : decode cL_law 347 = .ok (.iadd, 1) := dq daL_law_64_4 13 rfl
theorem dL_law_348 : decode cL_law 348 = .ok (.iaload, 1) := dq daL_law_64_4 14 rfl
theorem dL_law_349 : decode cL_law 349 = .ok (.aload_n 0, 1) := dq daL_law_64_4 15 rfl
theorem dL_law_350 : decode cL_law 350 = .ok (.iload_n 3, 1) := dq daL_law_64_4 16 rfl
theorem dL_law_351 : decode cL_law 351 = .ok (.iconst 5, 1) := dq daL_law_64_4 17 rfl
theorem dL_law_352 : decode cL_law 352 = .ok (.iadd, 1) := dq daL_law_64_4 18 rfl
theorem dL_law_353 : decode cL_law 353 = .ok (.iaload, 1) := dq daL_law_64_4 19 rfl
theorem dL_law_354 : decode cL_law 354 = .ok (.invokevirtual 26, 3) := dq daL_law_64_4 20 rfl
theorem dL_law_357 : decode cL_law 357 = .ok (.pop, 1) := dq daL_law_64_4 21 rfl
theorem dL_law_358 : decode cL_law 358 = .ok (.goto 1372, 3) := dq daL_law_64_4 22 rfl
theorem dL_law_361 : decode cL_law 361 = .ok (.aload_n 1, 1) := dq daL_law_64_4 23 rfl
theorem dL_law_362 : decode cL_law 362 = .ok (.aload_n 0, 1) := dq daL_law_64_4 24 rfl
theorem dL_law_363 : decode cL_law 363 = .ok (.iload_n 3, 1) := dq daL_law_64_4 25 rfl
theorem dL_law_364 : decode cL_law 364 = .ok (.iconst 1, 1) := dq daL_law_64_4 26 rfl
theorem dL_law_365 : decode cL_law 365 = .ok (.iadd, 1) := dq daL_law_64_4 27 rfl
theorem dL_law_366 : decode cL_law 366 = .ok (.iaload, 1) := dq daL_law_64_4 28 rfl
theorem dL_law_367 : decode cL_law 367 = .ok (.invokevirtual 27, 3) := dq daL_law_64_4 29 rfl
theorem dL_law_370 : decode cL_law 370 = .ok (.pop, 1) := dq daL_law_64_4 30 rfl
theorem dL_law_371 : decode cL_law 371 = .ok (.aload_n 2, 1) := dq daL_law_64_4 31 rfl
def dtL_law_64_5 : List (Nat × Jvm.ClassFile.Instr × Nat) := [(372, .aload_n 0, 1), (373, .iload_n 3, 1), (374, .iconst 1, 1), (375, .iadd, 1), (376, .iaload, 1), (377, .invokevirtual 31, 3), (380, .pop, 1), (381, .goto 1349, 3), (384, .aload_n 1, 1), (385, .aload_n 0, 1), (386, .iload_n 3, 1), (387, .iconst 1, 1), (388, .iadd, 1), (389, .iaload, 1), (390, .invokevirtual 32, 3), (393, .pop, 1), (394, .aload_n 2, 1), (395, .aload_n 0, 1), (396, .iload_n 3, 1), (397, .iconst 1, 1), (398, .iadd, 1), (399, .iaload, 1), (400, .invokevirtual 35, 3), (403, .pop, 1), (404, .goto 1326, 3), (407, .aload_n 1, 1), (408, .aload_n 0, 1), (409, .iload_n 3, 1), (410, .iconst 1, 1), (411, .iadd, 1), (412, .iaload, 1), (413, .aload_n 0, 1)]
theorem daL_law_64_5 : dtL_law_64_5.all (dqd cL_law) = true := by decide +kernel
theorem dL_law_372 : decode cL_law 372 = .ok (.aload_n 0, 1) := dq daL_law_64_5 0 rfl
theorem dL_law_373 : decode cL_law 373 = .ok (.iload_n 3, 1) := dq daL_law_64_5 1 rfl
theorem dL_law_374 : decode cL_law 374 = .ok (.iconst 1, 1) := dq daL_law_64_5 2 rfl
theorem dL_law_375 : decode cL_law 375 = .ok (.iadd, 1) := dq daL_law_64_5 3 rfl
theorem dL_law_376 : decode cL_law 376 = .ok (.iaload, 1) := dq daL_law_64_5 4 rfl
theorem dL_law_377 : decode cL_law 377 = .ok (.invokevirtual 31, 3) := dq daL_law_64_5 5 rfl
theorem dL_law_380 : decode cL_law 380 = .ok (.pop, 1) := dq daL_law_64_5 6 rfl
theorem dL_law_381 : decode cL_law 381 = .ok (.goto 1349, 3) := dq daL_law_64_5 7 rfl
theorem dL_law_384 : decode cL_law 384 = .ok (.aload_n 1, 1) := dq daL_law_64_5 8 rfl
theorem dL_law_385 : decode cL_law 385 = .ok (.aload_n 0, 1) := dq daL_law_64_5 9 rfl
theorem dL_law_386 : decode cL_law 386 = .ok (.iload_n 3, 1) := dq daL_law_64_5 10 rfl
theorem dL_law_387 : decode cL_law 387 = .ok (.iconst 1, 1) := dq daL_law_64_5 11 rfl
theorem dL_law_388 : decode cL_law 388 = .ok (.iadd, 1) := dq daL_law_64_5 12 rfl
theorem dL_law_389 : decode cL_law 389 = .ok (.iaload, 1) := dq daL_law_64_5 13 rfl
theorem dL_law_390 : decode cL_law 390 = .ok (.invokevirtual 32, 3) := dq daL_law_64_5 14 rfl
theorem dL_law_393 : decode cL_law 393 = .ok (.pop, 1) := dq daL_law_64_5 15 rfl
theorem dL_law_394 : decode cL_law 394 = .ok (.aload_n 2, 1) := dq daL_law_64_5 16 rfl
theorem dL_law_395 : decode cL_law 395 = .ok (.aload_n 0, 1) := dq daL_law_64_5 17 rfl
theorem dL_law_396 : decode cL_law 396 = .ok (.iload_n 3, 1) := dq daL_law_64_5 18 rfl
theorem dL_law_397 : decode cL_law 397 = .ok (.iconst 1, 1) := dq daL_law_64_5 19 rfl
theorem dL_law_398 : decode cL_law 398 = .ok (.iadd, 1) := dq daL_law_64_5 20 rfl
theorem dL_law_399 : decode cL_law 399 = .ok (.iaload, 1) := dq daL_law_64_5 21 rfl
theorem dL_law_400 : decode cL_law 400 = .ok (.invokevirtual 35, 3) := dq daL_law_64_5 22 rfl
theorem dL_law_403 : decode cL_law 403 = .ok (.pop, 1) := dq daL_law_64_5 23 rfl
theorem dL_law_404 : decode cL_law 404 = .ok (.goto 1326, 3) := dq daL_law_64_5 24 rfl
theorem dL_law_407 : decode cL_law 407 = .ok (.aload_n 1, 1) := dq daL_law_64_5 25 rfl
theorem dL_law_408 : decode cL_law 408 = .ok (.aload_n 0, 1) := dq daL_law_64_5 26 rfl
theorem dL_law_409 : decode cL_law 409 = .ok (.iload_n 3, 1) := dq daL_law_64_5 27 rfl
theorem dL_law_410 : decode cL_law 410 = .ok (.iconst 1, 1) := dq daL_law_64_5 28 rfl
theorem dL_law_411 : decode cL_law 411 = .ok (.iadd, 1) := dq daL_law_64_5 29 rfl
theorem dL_law_412 : decode cL_law 412 = .ok (.iaload, 1) := dq daL_law_64_5 30 rfl
theorem dL_law_413 : decode cL_law 413 = .ok (.aload_n 0, 1) := dq daL_law_64_5 31 rfl
def dtL_law_64_6 : List (Nat × Jvm.ClassFile.Instr × Nat) := [(414, .iload_n 3, 1), (415, .iconst 2, 1), (416, .iadd, 1), (417, .iaload, 1), (418, .aload_n 0, 1), (419, .iload_n 3, 1), (420, .iconst 3, 1), (421, .iadd, 1), (422, .iaload, 1), (423, .aload_n 0, 1), (424, .iload_n 3, 1), (425, .iconst 4, 1), (426, .iadd, 1), (427, .iaload, 1), (428, .aload_n 0, 1), (429, .iload_n 3, 1), (430, .iconst 5, 1), (431, .iadd, 1), (432, .iaload, 1), (433, .invokevirtual 36, 3), (436, .pop, 1), (437, .aload_n 2, 1), (438, .aload_n 0, 1), (439, .iload_n 3, 1), (440, .iconst 1, 1), (441, .iadd, 1), (442, .iaload, 1), (443, .aload_n 0, 1), (444, .iload_n 3, 1), (445, .iconst 2, 1), (446, .iadd, 1), (447, .iaload, 1)]
theorem daL_law_64_6 : dtL_law_64_6.all (dqd cL_law) = true := by decide +kernel
theorem dL_law_414 : decode cL_law 414 = .ok (.iload_n 3, 1) := dq daL_law_64_6 0 rfl
theorem dL_law_415 : decode cL_law 415 = .ok (.iconst 2, 1) := dq daL_law_64_6 1 rfl
theorem dL_law_416 : decode cL_law 416 = .ok (.iadd, 1) := dq daL_law_64_6 2 rfl
theorem dL_law_417 : decode cL_law 417 = .ok (.iaload, 1) := dq daL_law_64_6 3 rfl
theorem dL_law_418 : decode cL_law 418 = .ok (.aload_n 0, 1) := dq daL_law_64_6 4 rfl
theorem dL_law_419 : decode cL_law 419 = .ok (.iload_n 3, 1) := dq daL_law_64_6 5 rfl
theorem dL_law_420 : decode cL_law 420 = .ok (.iconst 3, 1) := dq daL_law_64_6 6 rfl
theorem dL_law_421 : decode cL_law 421 = .ok (.iadd, 1) := dq daL_law_64_6 7 rfl
theorem dL_law_422 : decode cL_law 422 = .ok (.iaload, 1) := dq daL_law_64_6 8 rfl
theorem dL_law_423 : decode cL_law 423 = .ok (.aload_n 0, 1) := dq daL_law_64_6 9 rfl
theorem dL_law_424 : decode cL_law 424 = .ok (.iload_n 3, 1) := dq daL_law_64_6 10 rfl
theorem dL_law_425 : decode cL_law 425 = .ok (.iconst 4, 1) := dq daL_law_64_6 11 rfl
theorem dL_law_426 : decode cL_law 426 = .ok (.iadd, 1) := dq daL_law_64_6 12 rfl
theorem dL_law_427 : decode cL_law 427 = .ok (.iaload, 1) := dq daL_law_64_6 13 rfl
theorem dL_law_428 : decode cL_law 428 = .ok (.aload_n 0, 1) := dq daL_law_64_6 14 rfl
theorem dL_law_429 : decode cL_law 429 = .ok (.iload_n 3, 1) := dq daL_law_64_6 15 rfl
theorem dL_law_430 : decode cL_law 430 = .ok (.iconst 5, 1) := dq daL_law_64_6 16 rfl
theorem dL_law_431 : decode cL_law 431 = .ok (.iadd, 1) := dq daL_law_64_6 17 rfl
theorem dL_law_432 : decode cL_law 432 = .ok (.iaload, 1) := dq daL_law_64_6 18 rfl
theorem dL_law_433 : decode cL_law 433 = .ok (.invokevirtual 36, 3) := dq daL_law_64_6 19 rfl
theorem dL_law_436 : decode cL_law 436 = .ok (.pop, 1) := dq daL_law_64_6 20 rfl
theorem dL_law_437 : decode cL_law 437 = .ok (.aload_n 2, 1) := dq daL_law_64_6 21 rfl
theorem dL_law_438 : decode cL_law 438 = .ok (.aload_n 0, 1) := dq daL_law_64_6 22 rfl
theorem dL_law_439 : decode cL_law 439 = .ok (.iload_n 3, 1) := dq daL_law_64_6 23 rfl
theorem dL_law_440 : decode cL_law 440 = .ok (.iconst 1, 1) := dq daL_law_64_6 24 rfl
theorem dL_law_441 : decode cL_law 441 = .ok (.iadd, 1) := dq daL_law_64_6 25 rfl
theorem dL_law_442 : decode cL_law 442 = .ok (.iaload, 1) := dq daL_law_64_6 26 rfl
theorem dL_law_443 : decode cL_law 443 = .ok (.aload_n 0, 1) := dq daL_law_64_6 27 rfl
theorem dL_law_444 : decode cL_law 444 = .ok (.iload_n 3, 1) := dq daL_law_64_6 28 rfl
theorem dL_law_445 : decode cL_law 445 = .ok (.iconst 2, 1) := dq daL_law_64_6 29 rfl
theorem dL_law_446 : decode cL_law 446 = .ok (.iadd, 1) := dq daL_law_64_6 30 rfl
theorem dL_law_447 : decode cL_law 447 = .ok (.iaload, 1) := dq daL_law_64_6 31 rfl
def dtL_law_64_7 : List (Nat × Jvm.ClassFile.Instr × Nat) := [(448, .aload_n 0, 1), (449, .iload_n 3, 1), (450, .iconst 3, 1), (451, .iadd, 1), (452, .iaload, 1), (453, .aload_n 0, 1), (454, .iload_n 3, 1), (455, .iconst 4, 1), (456, .iadd, 1), (457, .iaload, 1), (458, .aload_n 0, 1), (459, .iload_n 3, 1), (460, .iconst 5, 1), (461, .iadd, 1), (462, .iaload, 1), (463, .invokevirtual 39, 3), (466, .pop, 1), (467, .goto 1263, 3), (470, .aload_n 1, 1), (471, .aload_n 0, 1), (472, .iload_n 3, 1), (473, .iconst 1, 1), (474, .iadd, 1), (475, .iaload, 1), (476, .invokevirtual 40, 3), (479, .pop, 1), (480, .aload_n 2, 1), (481, .aload_n 0, 1), (482, .iload_n 3, 1), (483, .iconst 1, 1), (484, .iadd, 1), (485, .iaload, 1)]
theorem daL_law_64_7 : dtL_law_64_7.all (dqd cL_law) = true := by decide +kernel
theorem dL_law_448 : decode cL_law 448 = .ok (.aload_n 0, 1) := dq daL_law_64_7 0 rfl
theorem dL_law_449 : decode cL_law 449 = .ok (.iload_n 3, 1) := dq daL_law_64_7 1 rfl
theorem dL_law_450 : decode cL_law 450 = .ok (.iconst 3, 1) := dq daL_law_64_7 2 rfl
theorem dL_law_451 : decode cL_law 451 = .ok (.iadd, 1) := dq daL_law_64_7 3 rfl
theorem dL_law_452 : decode cL_law 452 = .ok (.iaload, 1) := dq daL_law_64_7 4 rfl
theorem dL_law_453 : decode cL_law 453 = .ok (.aload_n 0, 1) := dq daL_law_64_7 5 rfl
theorem dL_law_454 : decode cL_law 454 = .ok (.iload_n 3, 1) := dq daL_law_64_7 6 rfl
theorem dL_law_455 : decode cL_law 455 = .ok (.iconst 4, 1) := dq daL_law_64_7 7 rfl
theorem dL_law_456 : decode cL_law 456 = .ok (.iadd, 1) := dq daL_law_64_7 8 rfl
theorem dL_law_457 : decode cL_law 457 = .ok (.iaload, 1) := dq daL_law_64_7 9 rfl
theorem dL_law_458 : decode cL_law 458 = .ok (.aload_n 0, 1) := dq daL_law_64_7 10 rfl
theorem dL_law_459 : decode cL_law 459 = .ok (.iload_n 3, 1) := dq daL_law_64_7 11 rfl
theorem dL_law_460 : decode cL_law 460 = .ok (.iconst 5, 1) := dq daL_law_64_7 12 rfl
theorem dL_law_461 : decode cL_law 461 = .ok (.iadd, 1) := dq daL_law_64_7 13 rfl
theorem dL_law_462 : decode cL_law 462 = .ok (.iaload, 1) := dq daL_law_64_7 14 rfl
theorem dL_law_463 : decode cL_law 463 = .ok (.invokevirtual 39, 3) := dq daL_law_64_7 15 rfl
theorem dL_law_466 : decode cL_law 466 = .ok (.pop, 1) := dq daL_law_64_7 16 rfl
theorem dL_law_467 : decode cL_law 467 = .ok (.goto 1263, 3) := dq daL_law_64_7 17 rfl
theorem dL_law_470 : decode cL_law 470 = .ok (.aload_n 1, 1) := dq daL_law_64_7 18 rfl
theorem dL_law_471 : decode cL_law 471 = .ok (.aload_n 0, 1) := dq daL_law_64_7 19 rfl
theorem dL_law_472 : decode cL_law 472 = .ok (.iload_n 3, 1) := dq daL_law_64_7 20 rfl
theorem dL_law_473 : decode cL_law 473 = .ok (.iconst 1, 1) := dq daL_law_64_7 21 rfl
theorem dL_law_474 : decode cL_law 474 = .ok (.iadd, 1) := dq daL_law_64_7 22 rfl
theorem dL_law_475 : decode cL_law 475 = .ok (.iaload, 1) := dq daL_law_64_7 23 rfl
theorem dL_law_476 : decode cL_law 476 = .ok (.invokevirtual 40, 3) := dq daL_law_64_7 24 rfl
theorem dL_law_479 : decode cL_law 479 = .ok (.pop, 1) := dq daL_law_64_7 25 rfl
theorem dL_law_480 : decode cL_law 480 = .ok (.aload_n 2, 1) := dq daL_law_64_7 26 rfl
theorem dL_law_481 : decode cL_law 481 = .ok (.aload_n 0, 1) := dq daL_law_64_7 27 rfl
theorem dL_law_482 : decode cL_law 482 = .ok (.iload_n 3, 1) := dq daL_law_64_7 28 rfl
theorem dL_law_483 : decode cL_law 483 = .ok (.iconst 1, 1) := dq daL_law_64_7 29 rfl
theorem dL_law_484 : decode cL_law 484 = .ok (.iadd, 1) := dq daL_law_64_7 30 rfl
theorem dL_law_485 : decode cL_law 485 = .ok (.iaload, 1) := dq daL_law_64_7 31 rfl
def dtL_law_64_8 : List (Nat × Jvm.ClassFile.Instr × Nat) := [(486, .invokevirtual 43, 3), (489, .pop, 1), (490, .goto 1240, 3), (493, .aload_n 1, 1), (494, .invokevirtual 44, 3), (497, .pop, 1), (498, .aload_n 2, 1), (499, .invokevirtual 48, 3), (502, .pop, 1), (503, .goto 1227, 3), (506, .aload_n 1, 1), (507, .aload_n 0, 1), (508, .iload_n 3, 1), (509, .iconst 1, 1), (510, .iadd, 1), (511, .iaload, 1), (512, .aload_n 0, 1), (513, .iload_n 3, 1), (514, .iconst 2, 1), (515, .iadd, 1), (516, .iaload, 1), (517, .invokevirtual 49, 3), (520, .pop, 1), (521, .aload_n 2, 1), (522, .aload_n 0, 1), (523, .iload_n 3, 1), (524, .iconst 1, 1), (525, .iadd, 1), (526, .iaload, 1), (527, .aload_n 0, 1), (528, .iload_n 3, 1), (529, .iconst 2, 1)]
theorem daL_law_64_8 : dtL_law_64_8.all (dqd cL_law) = true := by decide +kernel
theorem dL_law_486 : decode cL_law 486 = .ok (.invokevirtual 43, 3) := dq daL_law_64_8 0 rfl
theorem dL_law_489 : decode cL_law 489 = .ok (.pop, 1) := dq daL_law_64_8 1 rfl
theorem dL_law_490 : decode cL_law 490 = .ok (.goto 1240, 3) := dq daL_law_64_8 2 rfl
theorem dL_law_493 : decode cL_law 493 = .ok (.aload_n 1, 1) := dq daL_law_64_8 3 rfl
theorem dL_law_494 : decode cL_law 494 = .ok (.invokevirtual 44, 3) := dq daL_law_64_8 4 rfl
theorem dL_law_497 : decode cL_law 497 = .ok (.pop, 1) := dq daL_law_64_8 5 rfl
theorem dL_law_498 : decode cL_law 498 = .ok (.aload_n 2, 1) := dq daL_law_64_8 6 rfl
theorem dL_law_499 : decode cL_law 499 = .ok (.invokevirtual 48, 3) := dq daL_law_64_8 7 rfl
theorem dL_law_502 : decode cL_law 502 = .ok (.pop, 1) := dq daL_law_64_8 8 rfl
theorem dL_law_503 : decode cL_law 503 = .ok (.goto 1227, 3) := dq daL_law_64_8 9 rfl
theorem dL_law_506 : decode cL_law 506 = .ok (.aload_n 1, 1) := dq daL_law_64_8 10 rfl
theorem dL_law_507 : decode cL_law 507 = .ok (.aload_n 0, 1) := dq daL_law_64_8 11 rfl
theorem dL_law_508 : decode cL_law 508 = .ok (.iload_n 3, 1) := dq daL_law_64_8 12 rfl
theorem dL_law_509 : decode cL_law 509 = .ok (.iconst 1, 1) := dq daL_law_64_8 13 rfl
theorem dL_law_510 : decode cL_law 510 = .ok (.iadd, 1) := dq daL_law_64_8 14 rfl
theorem dL_law_511 : decode cL_law 511 = .ok (.iaload, 1) := dq daL_law_64_8 15 rfl
theorem dL_law_512 : decode cL_law 512 = .ok (.aload_n 0, 1) := dq daL_law_64_8 16 rfl
theorem dL_law_513 : decode cL_law 513 = .ok (.iload_n 3, 1) := dq daL_law_64_8 17 rfl
theorem dL_law_514 : decode cL_law 514 = .ok (.iconst 2, 1) := dq daL_law_64_8 18 rfl
theorem dL_law_515 : decode cL_law 515 = .ok (.iadd, 1) := dq daL_law_64_8 19 rfl
theorem dL_law_516 : decode cL_law 516 = .ok (.iaload, 1) := dq daL_law_64_8 20 rfl
theorem dL_law_517 : decode cL_law 517 = .ok (.invokevirtual 49, 3) := dq daL_law_64_8 21 rfl
theorem dL_law_520 : decode cL_law 520 = .ok (.pop, 1) := dq daL_law_64_8 22 rfl
theorem dL_law_521 : decode cL_law 521 = .ok (.aload_n 2, 1) := dq daL_law_64_8 23 rfl
theorem dL_law_522 : decode cL_law 522 = .ok (.aload_n 0, 1) := dq daL_law_64_8 24 rfl
theorem dL_law_523 : decode cL_law 523 = .ok (.iload_n 3, 1) := dq daL_law_64_8 25 rfl
theorem dL_law_524 : decode cL_law 524 = .ok (.iconst 1, 1) := dq daL_law_64_8 26 rfl
theorem dL_law_525 : decode cL_law 525 = .ok (.iadd, 1) := dq daL_law_64_8 27 rfl
theorem dL_law_526 : decode cL_law 526 = .ok (.iaload, 1) := dq daL_law_64_8 28 rfl
theorem dL_law_527 : decode cL_law 527 = .ok (.aload_n 0, 1) := dq daL_law_64_8 29 rfl
theorem dL_law_528 : decode cL_law 528 = .ok (.iload_n 3, 1) := dq daL_law_64_8 30 rfl
theorem dL_law_529 : decode cL_law 529 = .ok (.iconst 2, 1) := dq daL_law_64_8 31 rfl
def dtL_law_64_9 : List (Nat × Jvm.ClassFile.Instr × Nat) := [(530, .iadd, 1), (531, .iaload, 1), (532, .invokevirtual 53, 3), (535, .pop, 1), (536, .goto 1194, 3), (539, .aload_n 1, 1), (540, .aload_n 0, 1), (541, .iload_n 3, 1), (542, .iconst 1, 1), (543, .iadd, 1), (544, .iaload, 1), (545, .invokevirtual 54, 3), (548, .aload_n 2, 1), (549, .aload_n 0, 1), (550, .iload_n 3, 1), (551, .iconst 1, 1), (552, .iadd, 1), (553, .iaload, 1), (554, .invokevirtual 57, 3), (557, .if_icmp .eq 1173, 3), (562, .aload_n 1, 1), (563, .aload_n 0, 1), (564, .iload_n 3, 1), (565, .iconst 1, 1), (566, .iadd, 1), (567, .iaload, 1), (568, .aload_n 0, 1), (569, .iload_n 3, 1), (570, .iconst 2, 1), (571, .iadd, 1), (572, .iaload, 1), (573, .invokevirtual 58, 3)]
theorem daL_law_64_9 : dtL_law_64_9.all (dqd cL_law) = true := by decide +kernel
theorem dL_law_530 : decode cL_law 530 = .ok (.iadd, 1) := dq daL_law_64_9 0 rfl
theorem dL_law_531 : decode cL_law 531 = .ok (.iaload, 1) := dq daL_law_64_9 1 rfl
theorem dL_law_532 : decode cL_law 532 = .ok (.invokevirtual 53, 3) := dq daL_law_64_9 2 rfl
theorem dL_law_535 : decode cL_law 535 = .ok (.pop, 1) := dq daL_law_64_9 3 rfl
theorem dL_law_536 : decode cL_law 536 = .ok (.goto 1194, 3) := dq daL_law_64_9 4 rfl
theorem dL_law_539 : decode cL_law 539 = .ok (.aload_n 1, 1) := dq daL_law_64_9 5 rfl
theorem dL_law_540 : decode cL_law 540 = .ok (.aload_n 0, 1) := dq daL_law_64_9 6 rfl
theorem dL_law_541 : decode cL_law 541 = .ok (.iload_n 3, 1) := dq daL_law_64_9 7 rfl
theorem dL_law_542 : decode cL_law 542 = .ok (.iconst 1, 1) := dq daL_law_64_9 8 rfl
theorem dL_law_543 : decode cL_law 543 = .ok (.iadd, 1) := dq daL_law_64_9 9 rfl
theorem dL_law_544 : decode cL_law 544 = .ok (.iaload, 1) := dq daL_law_64_9 10 rfl
theorem dL_law_545 : decode cL_law 545 = .ok (.invokevirtual 54, 3) := dq daL_law_64_9 11 rfl
theorem dL_law_548 : decode cL_law 548 = .ok (.aload_n 2, 1) := dq daL_law_64_9 12 rfl
theorem dL_law_549 : decode cL_law 549 = .ok (.aload_n 0, 1) := dq daL_law_64_9 13 rfl
theorem dL_law_550 : decode cL_law 550 = .ok (.iload_n 3, 1) := dq daL_law_64_9 14 rfl
theorem dL_law_551 : decode cL_law 551 = .ok (.iconst 1, 1) := dq daL_law_64_9 15 rfl
theorem dL_law_552 : decode cL_law 552 = .ok (.iadd, 1) := dq daL_law_64_9 16 rfl
theorem dL_law_553 : decode cL_law 553 = .ok (.iaload, 1) := dq daL_law_64_9 17 rfl
theorem dL_law_554 : decode cL_law 554 = .ok (.invokevirtual 57, 3) := dq daL_law_64_9 18 rfl
theorem dL_law_557 : decode cL_law 557 = .ok (.if_icmp .eq 1173, 3) := dq daL_law_64_9 19 rfl
theorem dL_law_562 : decode cL_law 562 = .ok (.aload_n 1, 1) := dq daL_law_64_9 20 rfl
theorem dL_law_563 : decode cL_law 563 = .ok (.aload_n 0, 1) := dq daL_law_64_9 21 rfl
theorem dL_law_564 : decode cL_law 564 = .ok (.iload_n 3, 1) := dq daL_law_64_9 22 rfl
theorem dL_law_565 : decode cL_law 565 = .ok (.iconst 1, 1) := dq daL_law_64_9 23 rfl
theorem dL_law_566 : decode cL_law 566 = .ok (.iadd, 1) := dq daL_law_64_9 24 rfl
theorem dL_law_567 : decode cL_law 567 = .ok (.iaload, 1) := dq daL_law_64_9 25 rfl
theorem dL_law_568 : decode cL_law 568 = .ok (.aload_n 0, 1) := dq daL_law_64_9 26 rfl
theorem dL_law_569 : decode cL_law 569 = .ok (.iload_n 3, 1) := dq daL_law_64_9 27 rfl
theorem dL_law_570 : decode cL_law 570 = .ok (.iconst 2, 1) := dq daL_law_64_9 28 rfl
theorem dL_law_571 : decode cL_law 571 = .ok (.iadd, 1) := dq daL_law_64_9 29 rfl
theorem dL_law_572 : decode cL_law 572 = .ok (.iaload, 1) := dq daL_law_64_9 30 rfl
theorem dL_law_573 : decode cL_law 573 = .ok (.invokevirtual 58, 3) := dq daL_law_64_9 31 rfl
def dtL_law_64_10 : List (Nat × Jvm.ClassFile.Instr × Nat) := [(576, .pop, 1), (577, .aload_n 2, 1), (578, .aload_n 0, 1), (579, .iload_n 3, 1), (580, .iconst 1, 1), (581, .iadd, 1), (582, .iaload, 1), (583, .aload_n 0, 1), (584, .iload_n 3, 1), (585, .iconst 2, 1), (586, .iadd, 1), (587, .iaload, 1), (588, .invokevirtual 61, 3), (591, .pop, 1), (592, .goto 1138, 3), (595, .aload_n 1, 1), (596, .aload_n 0, 1), (597, .iload_n 3, 1), (598, .iconst 1, 1), (599, .iadd, 1), (600, .iaload, 1), (601, .aload_n 0, 1), (602, .iload_n 3, 1), (603, .iconst 2, 1), (604, .iadd, 1), (605, .iaload, 1), (606, .invokevirtual 62, 3), (609, .pop, 1), (610, .aload_n 2, 1), (611, .aload_n 0, 1), (612, .iload_n 3, 1), (613, .iconst 1, 1)]
theorem daL_law_64_10 : dtL_law_64_10.all (dqd cL_law) = true := by decide +kernel
theorem dL_law_576 : decode cL_law 576 = .ok (.pop, 1) := dq daL_law_64_10 0 rfl
theorem dL_law_577 : decode cL_law 577 = .ok (.aload_n 2, 1) := dq daL_law_64_10 1 rfl
theorem dL_law_578 : decode cL_law 578 = .ok (.aload_n 0, 1) := dq daL_law_64_10 2 rfl
theorem dL_law_579 : decode cL_law 579 = .ok (.iload_n 3, 1) := dq daL_law_64_10 3 rfl
theorem dL_law_580 : decode cL_law 580 = .ok (.iconst 1, 1) := dq daL_law_64_10 4 rfl
theorem dL_law_581 : decode cL_law 581 = .ok (.iadd, 1) := dq daL_law_64_10 5 rfl
theorem dL_law_582 : decode cL_law 582 = .ok (.iaload, 1) := dq daL_law_64_10 6 rfl
theorem dL_law_583 : decode cL_law 583 = .ok (.aload_n 0, 1) := dq daL_law_64_10 7 rfl
theorem dL_law_584 : decode cL_law 584 = .ok (.iload_n 3, 1) := dq daL_law_64_10 8 rfl
theorem dL_law_585 : decode cL_law 585 = .ok (.iconst 2, 1) := dq daL_law_64_10 9 rfl
theorem dL_law_586 : decode cL_law 586 = .ok (.iadd, 1) := dq daL_law_64_10 10 rfl
theorem dL_law_587 : decode cL_law 587 = .ok (.iaload, 1) := dq daL_law_64_10 11 rfl
theorem dL_law_588 : decode cL_law 588 = .ok (.invokevirtual 61, 3) := dq daL_law_64_10 12 rfl
theorem dL_law_591 : decode cL_law 591 = .ok (.pop, 1) := dq daL_law_64_10 13 rfl
theorem dL_law_592 : decode cL_law 592 = .ok (.goto 1138, 3) := dq daL_law_64_10 14 rfl
theorem dL_law_595 : decode cL_law 595 = .ok (.aload_n 1, 1) := dq daL_law_64_10 15 rfl
theorem dL_law_596 : decode cL_law 596 = .ok (.aload_n 0, 1) := dq daL_law_64_10 16 rfl
theorem dL_law_597 : decode cL_law 597 = .ok (.iload_n 3, 1) := dq daL_law_64_10 17 rfl
theorem dL_law_598 : decode cL_law 598 = .ok (.iconst 1, 1) := dq daL_law_64_10 18 rfl
theorem dL_law_599 : decode cL_law 599 = .ok (.iadd, 1) := dq daL_law_64_10 19 rfl
theorem dL_law_600 : decode cL_law 600 = .ok (.iaload, 1) := dq daL_law_64_10 20 rfl
theorem dL_law_601 : decode cL_law 601 = .ok (.aload_n 0, 1) := dq daL_law_64_10 21 rfl
theorem dL_law_602 : decode cL_law 602 = .ok (.iload_n 3, 1) := dq daL_law_64_10 22 rfl
theorem dL_law_603 : decode cL_law 603 = .ok (.iconst 2, 1) := dq daL_law_64_10 23 rfl
theorem dL_law_604 : decode cL_law 604 = .ok (.iadd, 1) := dq daL_law_64_10 24 rfl
theorem dL_law_605 : decode cL_law 605 = .ok (.iaload, 1) := dq daL_law_64_10 25 rfl
theorem dL_law_606 : decode cL_law 606 = .ok (.invokevirtual 62, 3) := dq daL_law_64_10 26 rfl
theorem dL_law_609 : decode cL_law 609 = .ok (.pop, 1) := dq daL_law_64_10 27 rfl
theorem dL_law_610 : decode cL_law 610 = .ok (.aload_n 2, 1) := dq daL_law_64_10 28 rfl
theorem dL_law_611 : decode cL_law 611 = .ok (.aload_n 0, 1) := dq daL_law_64_10 29 rfl
theorem dL_law_612 : decode cL_law 612 = .ok (.iload_n 3, 1) := dq daL_law_64_10 30 rfl
theorem dL_law_613 : decode cL_law 613 = .ok (.iconst 1, 1) := dq daL_law_64_10 31 rfl
def dtL_law_64_11 : List (Nat × Jvm.ClassFile.Instr × Nat) := [(614, .iadd, 1), (615, .iaload, 1), (616, .aload_n 0, 1), (617, .iload_n 3, 1), (618, .iconst 2, 1), (619, .iadd, 1), (620, .iaload, 1), (621, .invokevirtual 66, 3), (624, .pop, 1), (625, .goto 1105, 3), (628, .aload_n 1, 1), (629, .aload_n 0, 1), (630, .iload_n 3, 1), (631, .iconst 1, 1), (632, .iadd, 1), (633, .iaload, 1), (634, .aload_n 0, 1), (635, .iload_n 3, 1), (636, .iconst 2, 1), (637, .iadd, 1), (638, .iaload, 1), (639, .invokevirtual 67, 3), (642, .pop, 1), (643, .aload_n 2, 1), (644, .aload_n 0, 1), (645, .iload_n 3, 1), (646, .iconst 1, 1), (647, .iadd, 1), (648, .iaload, 1), (649, .aload_n 0, 1), (650, .iload_n 3, 1), (651, .iconst 2, 1)]
theorem daL_law_64_11 : dtL_law_64_11.all (dqd cL_law) = true := by decide +kernel
theorem dL_law_614 : decode cL_law 614 = .ok (.iadd, 1) := dq daL_law_64_11 0 rfl
theorem dL_law_615 : decode cL_law 615 = .ok (.iaload, 1) := dq daL_law_64_11 1 rfl
theorem dL_law_616 : decode cL_law 616 = .ok (.aload_n 0, 1) := dq daL_law_64_11 2 rfl
theorem dL_law_617 : decode cL_law 617 = .ok (.iload_n 3, 1) := dq daL_law_64_11 3 rfl
theorem dL_law_618 : decode cL_law 618 = .ok (.iconst 2, 1) := dq daL_law_64_11 4 rfl
theorem dL_law_619 : decode cL_law 619 = .ok (.iadd, 1) := dq daL_law_64_11 5 rfl
theorem dL_law_620 : decode cL_law 620 = .ok (.iaload, 1) := dq daL_law_64_11 6 rfl
theorem dL_law_621 : decode cL_law 621 = .ok (.invokevirtual 66, 3) := dq daL_law_64_11 7 rfl
theorem dL_law_624 : decode cL_law 624 = .ok (.pop, 1) := dq daL_law_64_11 8 rfl
theorem dL_law_625 : decode cL_law 625 = .ok (.goto 1105, 3) := dq daL_law_64_11 9 rfl
theorem dL_law_628 : decode cL_law 628 = .ok (.aload_n 1, 1) := dq daL_law_64_11 10 rfl
theorem dL_law_629 : decode cL_law 629 = .ok (.aload_n 0, 1) := dq daL_law_64_11 11 rfl
theorem dL_law_630 : decode cL_law 630 = .ok (.iload_n 3, 1) := dq daL_law_64_11 12 rfl
theorem dL_law_631 : decode cL_law 631 = .ok (.iconst 1, 1) := dq daL_law_64_11 13 rfl
theorem dL_law_632 : decode cL_law 632 = .ok (.iadd, 1) := dq daL_law_64_11 14 rfl
theorem dL_law_633 : decode cL_law 633 = .ok (.iaload, 1) := dq daL_law_64_11 15 rfl
theorem dL_law_634 : decode cL_law 634 = .ok (.aload_n 0, 1) := dq daL_law_64_11 16 rfl
theorem dL_law_635 : decode cL_law 635 = .ok (.iload_n 3, 1) := dq daL_law_64_11 17 rfl
theorem dL_law_636 : decode cL_law 636 = .ok (.iconst 2, 1) := dq daL_law_64_11 18 rfl
theorem dL_law_637 : decode cL_law 637 = .ok (.iadd, 1) := dq daL_law_64_11 19 rfl
theorem dL_law_638 : decode cL_law 638 = .ok (.iaload, 1) := dq daL_law_64_11 20 rfl
theorem dL_law_639 : decode cL_law 639 = .ok (.invokevirtual 67, 3) := dq daL_law_64_11 21 rfl
theorem dL_law_642 : decode cL_law 642 = .ok (.pop, 1) := dq daL_law_64_11 22 rfl
theorem dL_law_643 : decode cL_law 643 = .ok (.aload_n 2, 1) := dq daL_law_64_11 23 rfl
theorem dL_law_644 : decode cL_law 644 = .ok (.aload_n 0, 1) := dq daL_law_64_11 24 rfl
theorem dL_law_645 : decode cL_law 645 = .ok (.iload_n 3, 1) := dq daL_law_64_11 25 rfl
theorem dL_law_646 : decode cL_law 646 = .ok (.iconst 1, 1) := dq daL_law_64_11 26 rfl
theorem dL_law_647 : decode cL_law 647 = .ok (.iadd, 1) := dq daL_law_64_11 27 rfl
theorem dL_law_648 : decode cL_law 648 = .ok (.iaload, 1) := dq daL_law_64_11 28 rfl
theorem dL_law_649 : decode cL_law 649 = .ok (.aload_n 0, 1) := dq daL_law_64_11 29 rfl
theorem dL_law_650 : decode cL_law 650 = .ok (.iload_n 3, 1) := dq daL_law_64_11 30 rfl
theorem dL_law_651 : decode cL_law 651 = .ok (.iconst 2, 1) := dq daL_law_64_11 31 rfl
def dtL_law_64_12 : List (Nat × Jvm.ClassFile.Instr × Nat) := [(652, .iadd, 1), (653, .iaload, 1), (654, .invokevirtual 70, 3), (657, .pop, 1), (658, .goto 1072, 3), (661, .aload_n 1, 1), (662, .aload_n 0, 1), (663, .iload_n 3, 1), (664, .iconst 1, 1), (665, .iadd, 1), (666, .iaload, 1), (667, .aload_n 0, 1), (668, .iload_n 3, 1), (669, .iconst 2, 1), (670, .iadd, 1), (671, .iaload, 1), (672, .invokevirtual 71, 3), (675, .pop, 1), (676, .aload_n 2, 1), (677, .aload_n 0, 1), (678, .iload_n 3, 1), (679, .iconst 1, 1), (680, .iadd, 1), (681, .iaload, 1), (682, .aload_n 0, 1), (683, .iload_n 3, 1), (684, .iconst 2, 1), (685, .iadd, 1), (686, .iaload, 1), (687, .invokevirtual 74, 3), (690, .pop, 1), (691, .goto 1039, 3)]
theorem daL_law_64_12 : dtL_law_64_12.all (dqd cL_law) = true := by decide +kernel
theorem dL_law_652 : decode cL_law 652 = .ok (.iadd, 1) := dq daL_law_64_12 0 rfl
theorem dL_law_653 : decode cL_law 653 = .ok (.iaload, 1) := dq daL_law_64_12 1 rfl
theorem dL_law_654 : decode cL_law 654 = .ok (.invokevirtual 70, 3) := dq daL_law_64_12 2 rfl
theorem dL_law_657 : decode cL_law 657 = .ok (.pop, 1) := dq daL_law_64_12 3 rfl
theorem dL_law_658 : decode cL_law 658 = .ok (.goto 1072, 3) := dq daL_law_64_12 4 rfl
theorem dL_law_661 : decode cL_law 661 = .ok (.aload_n 1, 1) := dq daL_law_64_12 5 rfl
theorem dL_law_662 : decode cL_law 662 = .ok (.aload_n 0, 1) := dq daL_law_64_12 6 rfl
theorem dL_law_663 : decode cL_law 663 = .ok (.iload_n 3, 1) := dq daL_law_64_12 7 rfl
theorem dL_law_664 : decode cL_law 664 = .ok (.iconst 1, 1) := dq daL_law_64_12 8 rfl
theorem dL_law_665 : decode cL_law 665 = .ok (.iadd, 1) := dq daL_law_64_12 9 rfl
theorem dL_law_666 : decode cL_law 666 = .ok (.iaload, 1) := dq daL_law_64_12 10 rfl
theorem dL_law_667 : decode cL_law 667 = .ok (.aload_n 0, 1) := dq daL_law_64_12 11 rfl
theorem dL_law_668 : decode cL_law 668 = .ok (.iload_n 3, 1) := dq daL_law_64_12 12 rfl
theorem dL_law_669 : decode cL_law 669 = .ok (.iconst 2, 1) := dq daL_law_64_12 13 rfl
theorem dL_law_670 : decode cL_law 670 = .ok (.iadd, 1) := dq daL_law_64_12 14 rfl
theorem dL_law_671 : decode cL_law 671 = .ok (.iaload, 1) := dq daL_law_64_12 15 rfl
theorem dL_law_672 : decode cL_law 672 = .ok (.invokevirtual 71, 3) := dq daL_law_64_12 16 rfl
theorem dL_law_675 : decode cL_law 675 = .ok (.pop, 1) := dq daL_law_64_12 17 rfl
theorem dL_law_676 : decode cL_law 676 = .ok (.aload_n 2, 1) := dq daL_law_64_12 18 rfl
theorem dL_law_677 : decode cL_law 677 = .ok (.aload_n 0, 1) := dq daL_law_64_12 19 rfl
theorem dL_law_678 : decode cL_law 678 = .ok (.iload_n 3, 1) := dq daL_law_64_12 20 rfl
theorem dL_law_679 : decode cL_law 679 = .ok (.iconst 1, 1) := dq daL_law_64_12 21 rfl
theorem dL_law_680 : decode cL_law 680 = .ok (.iadd, 1) := dq daL_law_64_12 22 rfl
theorem dL_law_681 : decode cL_law 681 = .ok (.iaload, 1) := dq daL_law_64_12 23 rfl
theorem dL_law_682 : decode cL_law 682 = .ok (.aload_n 0, 1) := dq daL_law_64_12 24 rfl
theorem dL_law_683 : decode cL_law 683 = .ok (.iload_n 3, 1) := dq daL_law_64_12 25 rfl
theorem dL_law_684 : decode cL_law 684 = .ok (.iconst 2, 1) := dq daL_law_64_12 26 rfl
theorem dL_law_685 : decode cL_law 685 = .ok (.iadd, 1) := dq daL_law_64_12 27 rfl
theorem dL_law_686 : decode cL_law 686 = .ok (.iaload, 1) := dq daL_law_64_12 28 rfl
theorem dL_law_687 : decode cL_law 687 = .ok (.invokevirtual 74, 3) := dq daL_law_64_12 29 rfl
theorem dL_law_690 : decode cL_law 690 = .ok (.pop, 1) := dq daL_law_64_12 30 rfl
theorem dL_law_691 : decode cL_law 691 = .ok (.goto 1039, 3) := dq daL_law_64_12 31 rfl
def dtL_law_64_13 : List (Nat × Jvm.ClassFile.Instr × Nat) := [(694, .aload_n 1, 1), (695, .aload_n 0, 1), (696, .iload_n 3, 1), (697, .iconst 1, 1), (698, .iadd, 1), (699, .iaload, 1), (700, .aload_n 0, 1), (701, .iload_n 3, 1), (702, .iconst 2, 1), (703, .iadd, 1), (704, .iaload, 1), (705, .invokevirtual 75, 3), (708, .pop, 1), (709, .aload_n 2, 1), (710, .aload_n 0, 1), (711, .iload_n 3, 1), (712, .iconst 1, 1), (713, .iadd, 1), (714, .iaload, 1), (715, .aload_n 0, 1), (716, .iload_n 3, 1), (717, .iconst 2, 1), (718, .iadd, 1), (719, .iaload, 1), (720, .invokevirtual 78, 3), (723, .pop, 1), (724, .goto 1006, 3), (727, .aload_n 1, 1), (728, .aload_n 0, 1), (729, .iload_n 3, 1), (730, .iconst 1, 1), (731, .iadd, 1)]
theorem daL_law_64_13 : dtL_law_64_13.all (dqd cL_law) = true := by decide +kernel
theorem dL_law_694 : decode cL_law 694 = .ok (.aload_n 1, 1) := dq daL_law_64_13 0 rfl
theorem dL_law_695 : decode cL_law 695 = .ok (.aload_n 0, 1) := dq daL_law_64_13 1 rfl
theorem dL_law_696 : decode cL_law 696 = .ok (.iload_n 3, 1) := dq daL_law_64_13 2 rfl
theorem dL_law_697 : decode cL_law 697 = .ok (.iconst 1, 1) := dq daL_law_64_13 3 rfl
theorem dL_law_698 : decode cL_law 698 = .ok (.iadd, 1) := dq daL_law_64_13 4 rfl
theorem dL_law_699 : decode cL_law 699 = .ok (.iaload, 1) := dq daL_law_64_13 5 rfl
theorem dL_law_700 : decode cL_law 700 = .ok (.aload_n 0, 1) := dq daL_law_64_13 6 rfl
theorem dL_law_701 : decode cL_law 701 = .ok (.iload_n 3, 1) := dq daL_law_64_13 7 rfl
theorem dL_law_702 : decode cL_law 702 = .ok (.iconst 2, 1) := dq daL_law_64_13 8 rfl
theorem dL_law_703 : decode cL_law 703 = .ok (.iadd, 1) := dq daL_law_64_13 9 rfl
theorem dL_law_704 : decode cL_law 704 = .ok (.iaload, 1) := dq daL_law_64_13 10 rfl
theorem dL_law_705 : decode cL_law 705 = .ok (.invokevirtual 75, 3) := dq daL_law_64_13 11 rfl
theorem dL_law_708 : decode cL_law 708 = .ok (.pop, 1) := dq daL_law_64_13 12 rfl
theorem dL_law_709 : decode cL_law 709 = .ok (.aload_n 2, 1) := dq daL_law_64_13 13 rfl
theorem dL_law_710 : decode cL_law 710 = .ok (.aload_n 0, 1) := dq daL_law_64_13 14 rfl
theorem dL_law_711 : decode cL_law 711 = .ok (.iload_n 3, 1) := dq daL_law_64_13 15 rfl
theorem dL_law_712 : decode cL_law 712 = .ok (.iconst 1, 1) := dq daL_law_64_13 16 rfl
theorem dL_law_713 : decode cL_law 713 = .ok (.iadd, 1) := dq daL_law_64_13 17 rfl
theorem dL_law_714 : decode cL_law 714 = .ok (.iaload, 1) := dq daL_law_64_13 18 rfl
theorem dL_law_715 : decode cL_law 715 = .ok (.aload_n 0, 1) := dq daL_law_64_13 19 rfl
theorem dL_law_716 : decode cL_law 716 = .ok (.iload_n 3, 1) := dq daL_law_64_13 20 rfl
theorem dL_law_717 : decode cL_law 717 = .ok (.iconst 2, 1) := dq daL_law_64_13 21 rfl
theorem dL_law_718 : decode cL_law 718 = .ok (.iadd, 1) := dq daL_law_64_13 22 rfl
theorem dL_law_719 : decode cL_law 719 = .ok (.iaload, 1) := dq daL_law_64_13 23 rfl
theorem dL_law_720 : decode cL_law 720 = .ok (.invokevirtual 78, 3) := dq daL_law_64_13 24 rfl
theorem dL_law_723 : decode cL_law 723 = .ok (.pop, 1) := dq daL_law_64_13 25 rfl
theorem dL_law_724 : decode cL_law 724 = .ok (.goto 1006, 3) := dq daL_law_64_13 26 rfl
theorem dL_law_727 : decode cL_law 727 = .ok (.aload_n 1, 1) := dq daL_law_64_13 27 rfl
theorem dL_law_728 : decode cL_law 728 = .ok (.aload_n 0, 1) := dq daL_law_64_13 28 rfl
theorem dL_law_729 : decode cL_law 729 = .ok (.iload_n 3, 1) := dq daL_law_64_13 29 rfl
theorem dL_law_730 : decode cL_law 730 = .ok (.iconst 1, 1) := dq daL_law_64_13 30 rfl
theorem dL_law_731 : decode cL_law 731 = .ok (.iadd, 1) := dq daL_law_64_13 31 rfl
def dtL_law_64_14 : List (Nat × Jvm.ClassFile.Instr × Nat) := [(732, .iaload, 1), (733, .aload_n 0, 1), (734, .iload_n 3, 1), (735, .iconst 2, 1), (736, .iadd, 1), (737, .iaload, 1), (738, .invokevirtual 79, 3), (741, .pop, 1), (742, .aload_n 2, 1), (743, .aload_n 0, 1), (744, .iload_n 3, 1), (745, .iconst 1, 1), (746, .iadd, 1), (747, .iaload, 1), (748, .aload_n 0, 1), (749, .iload_n 3, 1), (750, .iconst 2, 1), (751, .iadd, 1), (752, .iaload, 1), (753, .invokevirtual 82, 3), (756, .pop, 1), (757, .goto 973, 3), (760, .aload_n 1, 1), (761, .aload_n 0, 1), (762, .iload_n 3, 1), (763, .iconst 1, 1), (764, .iadd, 1), (765, .iaload, 1), (766, .invokevirtual 83, 3), (769, .pop, 1), (770, .aload_n 2, 1), (771, .aload_n 0, 1)]
theorem daL_law_64_14 : dtL_law_64_14.all (dqd cL_law) = true := by decide +kernel
theorem dL_law_732 : decode cL_law 732 = .ok (.iaload, 1) := dq daL_law_64_14 0 rfl
theorem dL_law_733 : decode cL_law 733 = .ok (.aload_n 0, 1) := dq daL_law_64_14 1 rfl
theorem dL_law_734 : decode cL_law 734 = .ok (.iload_n 3, 1) := dq daL_law_64_14 2 rfl
theorem dL_law_735 : decode cL_law 735 = .ok (.iconst 2, 1) := dq daL_law_64_14 3 rfl
theorem dL_law_736 : decode cL_law 736 = .ok (.iadd, 1) := dq daL_law_64_14 4 rfl
theorem dL_law_737 : decode cL_law 737 = .ok (.iaload, 1) := dq daL_law_64_14 5 rfl
theorem dL_law_738 : decode cL_law 738 = .ok (.invokevirtual 79, 3) := dq daL_law_64_14 6 rfl
theorem dL_law_741 : decode cL_law 741 = .ok (.pop, 1) := dq daL_law_64_14 7 rfl
theorem dL_law_742 : decode cL_law 742 = .ok (.aload_n 2, 1) := dq daL_law_64_14 8 rfl
theorem dL_law_743 : decode cL_law 743 = .ok (.aload_n 0, 1) := dq daL_law_64_14 9 rfl
theorem dL_law_744 : decode cL_law 744 = .ok (.iload_n 3, 1) := dq daL_law_64_14 10 rfl
theorem dL_law_745 : decode cL_law 745 = .ok (.iconst 1, 1) := dq daL_law_64_14 11 rfl
theorem dL_law_746 : decode cL_law 746 = .ok (.iadd, 1) := dq daL_law_64_14 12 rfl
theorem dL_law_747 : decode cL_law 747 = .ok (.iaload, 1) := dq daL_law_64_14 13 rfl
theorem dL_law_748 : decode cL_law 748 = .ok (.aload_n 0, 1) := dq daL_law_64_14 14 rfl
theorem dL_law_749 : decode cL_law 749 = .ok (.iload_n 3, 1) := dq daL_law_64_14 15 rfl
theorem dL_law_750 : decode cL_law 750 = .ok (.iconst 2, 1) := dq daL_law_64_14 16 rfl
theorem dL_law_751 : decode cL_law 751 = .ok (.iadd, 1) := dq daL_law_64_14 17 rfl
theorem dL_law_752 : decode cL_law 752 = .ok (.iaload, 1) := dq daL_law_64_14 18 rfl
theorem dL_law_753 : decode cL_law 753 = .ok (.invokevirtual 82, 3) := dq daL_law_64_14 19 rfl
theorem dL_law_756 : decode cL_law 756 = .ok (.pop, 1) := dq daL_law_64_14 20 rfl
theorem dL_law_757 : decode cL_law 757 = .ok (.goto 973, 3) := dq daL_law_64_14 21 rfl
theorem dL_law_760 : decode cL_law 760 = .ok (.aload_n 1, 1) := dq daL_law_64_14 22 rfl
theorem dL_law_761 : decode cL_law 761 = .ok (.aload_n 0, 1) := dq daL_law_64_14 23 rfl
theorem dL_law_762 : decode cL_law 762 = .ok (.iload_n 3, 1) := dq daL_law_64_14 24 rfl
theorem dL_law_763 : decode cL_law 763 = .ok (.iconst 1, 1) := dq daL_law_64_14 25 rfl
theorem dL_law_764 : decode cL_law 764 = .ok (.iadd, 1) := dq daL_law_64_14 26 rfl
theorem dL_law_765 : decode cL_law 765 = .ok (.iaload, 1) := dq daL_law_64_14 27 rfl
theorem dL_law_766 : decode cL_law 766 = .ok (.invokevirtual 83, 3) := dq daL_law_64_14 28 rfl
theorem dL_law_769 : decode cL_law 769 = .ok (.pop, 1) := dq daL_law_64_14 29 rfl
theorem dL_law_770 : decode cL_law 770 = .ok (.aload_n 2, 1) := dq daL_law_64_14 30 rfl
theorem dL_law_771 : decode cL_law 771 = .ok (.aload_n 0, 1) := dq daL_law_64_14 31 rfl
def dtL_law_64_15 : List (Nat × Jvm.ClassFile.Instr × Nat) := [(772, .iload_n 3, 1), (773, .iconst 1, 1), (774, .iadd, 1), (775, .iaload, 1), (776, .invokevirtual 86, 3), (779, .pop, 1), (780, .goto 950, 3), (783, .aload_n 1, 1), (784, .aload_n 0, 1), (785, .iload_n 3, 1), (786, .iconst 1, 1), (787, .iadd, 1), (788, .iaload, 1), (789, .invokevirtual 87, 3), (792, .pop, 1), (793, .aload_n 2, 1), (794, .aload_n 0, 1), (795, .iload_n 3, 1), (796, .iconst 1, 1), (797, .iadd, 1), (798, .iaload, 1), (799, .invokevirtual 91, 3), (802, .pop, 1), (803, .goto 927, 3), (806, .aload_n 1, 1), (807, .aload_n 0, 1), (808, .iload_n 3, 1), (809, .iconst 1, 1), (810, .iadd, 1), (811, .iaload, 1), (812, .aload_n 0, 1), (813, .iload_n 3, 1)]
theorem daL_law_64_15 : dtL_law_64_15.all (dqd cL_law) = true := by decide +kernel
theorem dL_law_772 : decode cL_law 772 = .ok (.iload_n 3, 1) := dq daL_law_64_15 0 rfl
theorem dL_law_773 : decode cL_law 773 = .ok (.iconst 1, 1) := dq daL_law_64_15 1 rfl
theorem dL_law_774 : decode cL_law 774 = .ok (.iadd, 1) := dq daL_law_64_15 2 rfl
theorem dL_law_775 : decode cL_law 775 = .ok (.iaload, 1) := dq daL_law_64_15 3 rfl
theorem dL_law_776 : decode cL_law 776 = .ok (.invokevirtual 86, 3) := dq daL_law_64_15 4 rfl
theorem dL_law_779 : decode cL_law 779 = .ok (.pop, 1) := dq daL_law_64_15 5 rfl
theorem dL_law_780 : decode cL_law 780 = .ok (.goto 950, 3) := dq daL_law_64_15 6 rfl
theorem dL_law_783 : decode cL_law 783 = .ok (.aload_n 1, 1) := dq daL_law_64_15 7 rfl
theorem dL_law_784 : decode cL_law 784 = .ok (.aload_n 0, 1) := dq daL_law_64_15 8 rfl
theorem dL_law_785 : decode cL_law 785 = .ok (.iload_n 3, 1) := dq daL_law_64_15 9 rfl
theorem dL_law_786 : decode cL_law 786 = .ok (.iconst 1, 1) := dq daL_law_64_15 10 rfl
theorem dL_law_787 : decode cL_law 787 = .ok (.iadd, 1) := dq daL_law_64_15 11 rfl
theorem dL_law_788 : decode cL_law 788 = .ok (.iaload, 1) := dq daL_law_64_15 12 rfl
theorem dL_law_789 : decode cL_law 789 = .ok (.invokevirtual 87, 3) := dq daL_law_64_15 13 rfl
theorem dL_law_792 : decode cL_law 792 = .ok (.pop, 1) := dq daL_law_64_15 14 rfl
theorem dL_law_793 : decode cL_law 793 = .ok (.aload_n 2, 1) := dq daL_law_64_15 15 rfl
theorem dL_law_794 : decode cL_law 794 = .ok (.aload_n 0, 1) := dq daL_law_64_15 16 rfl
theorem dL_law_795 : decode cL_law 795 = .ok (.iload_n 3, 1) := dq daL_law_64_15 17 rfl
theorem dL_law_796 : decode cL_law 796 = .ok (.iconst 1, 1) := dq daL_law_64_15 18 rfl
theorem dL_law_797 : decode cL_law 797 = .ok (.iadd, 1) := dq daL_law_64_15 19 rfl
theorem dL_law_798 : decode cL_law 798 = .ok (.iaload, 1) := dq daL_law_64_15 20 rfl
theorem dL_law_799 : decode cL_law 799 = .ok (.invokevirtual 91, 3) := dq daL_law_64_15 21 rfl
theorem dL_law_802 : decode cL_law 802 = .ok (.pop, 1) := dq daL_law_64_15 22 rfl
theorem dL_law_803 : decode cL_law 803 = .ok (.goto 927, 3) := dq daL_law_64_15 23 rfl
theorem dL_law_806 : decode cL_law 806 = .ok (.aload_n 1, 1) := dq daL_law_64_15 24 rfl
theorem dL_law_807 : decode cL_law 807 = .ok (.aload_n 0, 1) := dq daL_law_64_15 25 rfl
theorem dL_law_808 : decode cL_law 808 = .ok (.iload_n 3, 1) := dq daL_law_64_15 26 rfl
theorem dL_law_809 : decode cL_law 809 = .ok (.iconst 1, 1) := dq daL_law_64_15 27 rfl
theorem dL_law_810 : decode cL_law 810 = .ok (.iadd, 1) := dq daL_law_64_15 28 rfl
theorem dL_law_811 : decode cL_law 811 = .ok (.iaload, 1) := dq daL_law_64_15 29 rfl
theorem dL_law_812 : decode cL_law 812 = .ok (.aload_n 0, 1) := dq daL_law_64_15 30 rfl
theorem dL_law_813 : decode cL_law 813 = .ok (.iload_n 3, 1) := dq daL_law_64_15 31 rfl
def dtL_law_64_16 : List (Nat × Jvm.ClassFile.Instr × Nat) := [(814, .iconst 2, 1), (815, .iadd, 1), (816, .iaload, 1), (817, .aload_n 0, 1), (818, .iload_n 3, 1), (819, .iconst 3, 1), (820, .iadd, 1), (821, .iaload, 1), (822, .aload_n 0, 1), (823, .iload_n 3, 1), (824, .iconst 4, 1), (825, .iadd, 1), (826, .iaload, 1), (827, .aload_n 0, 1), (828, .iload_n 3, 1), (829, .iconst 5, 1), (830, .iadd, 1), (831, .iaload, 1), (832, .aload_n 0, 1), (833, .iload_n 3, 1), (834, .bipush 6, 2), (836, .iadd, 1), (837, .iaload, 1), (838, .invokevirtual 92, 3), (841, .pop, 1), (842, .aload_n 2, 1), (843, .aload_n 0, 1), (844, .iload_n 3, 1), (845, .iconst 1, 1), (846, .iadd, 1), (847, .iaload, 1), (848, .aload_n 0, 1)]
theorem daL_law_64_16 : dtL_law_64_16.all (dqd cL_law) = true := by decide +kernel
theorem dL_law_814 : decode cL_law 814 = .ok (.iconst 2, 1) := dq daL_law_64_16 0 rfl
theorem dL_law_815 : decode cL_law 815 = .ok (.iadd, 1) := dq daL_law_64_16 1 rfl
theorem dL_law_816 : decode cL_law 816 = .ok (.iaload, 1) := dq daL_law_64_16 2 rfl
theorem dL_law_817 : decode cL_law 817 = .ok (.aload_n 0, 1) := dq daL_law_64_16 3 rfl
theorem dL_law_818 : decode cL_law 818 = .ok (.iload_n 3, 1) := dq daL_law_64_16 4 rfl
theorem dL_law_819 : decode cL_law 819 = .ok (.iconst 3, 1) := dq daL_law_64_16 5 rfl
theorem dL_law_820 : decode cL_law 820 = .ok (.iadd, 1) := dq daL_law_64_16 6 rfl
theorem dL_law_821 : decode cL_law 821 = .ok (.iaload, 1) := dq daL_law_64_16 7 rfl
theorem dL_law_822 : decode cL_law 822 = .ok (.aload_n 0, 1) := dq daL_law_64_16 8 rfl
theorem dL_law_823 : decode cL_law 823 = .ok (.iload_n 3, 1) := dq daL_law_64_16 9 rfl
theorem dL_law_824 : decode cL_law 824 = .ok (.iconst 4, 1) := dq daL_law_64_16 10 rfl
theorem dL_law_825 : decode cL_law 825 = .ok (.iadd, 1) := dq daL_law_64_16 11 rfl
theorem dL_law_826 : decode cL_law 826 = .ok (.iaload, 1) := dq daL_law_64_16 12 rfl
theorem dL_law_827 : decode cL_law 827 = .ok (.aload_n 0, 1) := dq daL_law_64_16 13 rfl
theorem dL_law_828 : decode cL_law 828 = .ok (.iload_n 3, 1) := dq daL_law_64_16 14 rfl
theorem dL_law_829 : decode cL_law 829 = .ok (.iconst 5, 1) := dq daL_law_64_16 15 rfl
theorem dL_law_830 : decode cL_law 830 = .ok (.iadd, 1) := dq daL_law_64_16 16 rfl
theorem dL_law_831 : decode cL_law 831 = .ok (.iaload, 1) := dq daL_law_64_16 17 rfl
theorem dL_law_832 : decode cL_law 832 = .ok (.aload_n 0, 1) := dq daL_law_64_16 18 rfl
theorem dL_law_833 : decode cL_law 833 = .ok (.iload_n 3, 1) := dq daL_law_64_16 19 rfl
theorem dL_law_834 : decode cL_law 834 = .ok (.bipush 6, 2) := dq daL_law_64_16 20 rfl
theorem dL_law_836 : decode cL_law 836 = .ok (.iadd, 1) := dq daL_law_64_16 21 rfl
theorem dL_law_837 : decode cL_law 837 = .ok (.iaload, 1) := dq daL_law_64_16 22 rfl
theorem dL_law_838 : decode cL_law 838 = .ok (.invokevirtual 92, 3) := dq daL_law_64_16 23 rfl
theorem dL_law_841 : decode cL_law 841 = .ok (.pop, 1) := dq daL_law_64_16 24 rfl
theorem dL_law_842 : decode cL_law 842 = .ok (.aload_n 2, 1) := dq daL_law_64_16 25 rfl
theorem dL_law_843 : decode cL_law 843 = .ok (.aload_n 0, 1) := dq daL_law_64_16 26 rfl
theorem dL_law_844 : decode cL_law 844 = .ok (.iload_n 3, 1) := dq daL_law_64_16 27 rfl
theorem dL_law_845 : decode cL_law 845 = .ok (.iconst 1, 1) := dq daL_law_64_16 28 rfl
theorem dL_law_846 : decode cL_law 846 = .ok (.iadd, 1) := dq daL_law_64_16 29 rfl
theorem dL_law_847 : decode cL_law 847 = .ok (.iaload, 1) := dq daL_law_64_16 30 rfl
theorem dL_law_848 : decode cL_law 848 = .ok (.aload_n 0, 1) := dq daL_law_64_16 31 rfl
def dtL_law_64_17 : List (Nat × Jvm.ClassFile.Instr × Nat) := [(849, .iload_n 3, 1), (850, .iconst 2, 1), (851, .iadd, 1), (852, .iaload, 1), (853, .aload_n 0, 1), (854, .iload_n 3, 1), (855, .iconst 3, 1), (856, .iadd, 1), (857, .iaload, 1), (858, .aload_n 0, 1), (859, .iload_n 3, 1), (860, .iconst 4, 1), (861, .iadd, 1), (862, .iaload, 1), (863, .aload_n 0, 1), (864, .iload_n 3, 1), (865, .iconst 5, 1), (866, .iadd, 1), (867, .iaload, 1), (868, .aload_n 0, 1), (869, .iload_n 3, 1), (870, .bipush 6, 2), (872, .iadd, 1), (873, .iaload, 1), (874, .invokevirtual 96, 3), (877, .pop, 1), (878, .goto 852, 3), (881, .aload_n 1, 1), (882, .aload_n 0, 1), (883, .iload_n 3, 1), (884, .iconst 1, 1), (885, .iadd, 1)]
theorem daL_law_64_17 : dtL_law_64_17.all (dqd cL_law) = true := by decide +kernel
theorem dL_law_849 : decode cL_law 849 = .ok (.iload_n 3, 1) := dq daL_law_64_17 0 rfl
theorem dL_law_850 : decode cL_law 850 = .ok (.iconst 2, 1) := dq daL_law_64_17 1 rfl
theorem dL_law_851 : decode cL_law 851 = .ok (.iadd, 1) := dq daL_law_64_17 2 rfl
theorem dL_law_852 : decode cL_law 852 = .ok (.iaload, 1) := dq daL_law_64_17 3 rfl
theorem dL_law_853 : decode cL_law 853 = .ok (.aload_n 0, 1) := dq daL_law_64_17 4 rfl
theorem dL_law_854 : decode cL_law 854 = .ok (.iload_n 3, 1) := dq daL_law_64_17 5 rfl
theorem dL_law_855 : decode cL_law 855 = .ok (.iconst 3, 1) := dq daL_law_64_17 6 rfl
theorem dL_law_856 : decode cL_law 856 = .ok (.iadd, 1) := dq daL_law_64_17 7 rfl
theorem dL_law_857 : decode cL_law 857 = .ok (.iaload, 1) := dq daL_law_64_17 8 rfl
theorem dL_law_858 : decode cL_law 858 = .ok (.aload_n 0, 1) := dq daL_law_64_17 9 rfl
theorem dL_law_859 : decode cL_law 859 = .ok (.iload_n 3, 1) := dq daL_law_64_17 10 rfl
theorem dL_law_860 : decode cL_law 860 = .ok (.iconst 4, 1) := dq daL_law_64_17 11 rfl
theorem dL_law_861 : decode cL_law 861 = .ok (.iadd, 1) := dq daL_law_64_17 12 rfl
theorem dL_law_862 : decode cL_law 862 = .ok (.iaload, 1) := dq daL_law_64_17 13 rfl
theorem dL_law_863 : decode cL_law 863 = .ok (.aload_n 0, 1) := dq daL_law_64_17 14 rfl
theorem dL_law_864 : decode cL_law 864 = .ok (.iload_n 3, 1) := dq daL_law_64_17 15 rfl
theorem dL_law_865 : decode cL_law 865 = .ok (.iconst 5, 1) := dq daL_law_64_17 16 rfl
theorem dL_law_866 : decode cL_law 866 = .ok (.iadd, 1) := dq daL_law_64_17 17 rfl
theorem dL_law_867 : decode cL_law 867 = .ok (.iaload, 1) := dq daL_law_64_17 18 rfl
theorem dL_law_868 : decode cL_law 868 = .ok (.aload_n 0, 1) := dq daL_law_64_17 19 rfl
theorem dL_law_869 : decode cL_law 869 = .ok (.iload_n 3, 1) := dq daL_law_64_17 20 rfl
theorem dL_law_870 : decode cL_law 870 = .ok (.bipush 6, 2) := dq daL_law_64_17 21 rfl
theorem dL_law_872 : decode cL_law 872 = .ok (.iadd, 1) := dq daL_law_64_17 22 rfl
theorem dL_law_873 : decode cL_law 873 = .ok (.iaload, 1) := dq daL_law_64_17 23 rfl
theorem dL_law_874 : decode cL_law 874 = .ok (.invokevirtual 96, 3) := dq daL_law_64_17 24 rfl
theorem dL_law_877 : decode cL_law 877 = .ok (.pop, 1) := dq daL_law_64_17 25 rfl
theorem dL_law_878 : decode cL_law 878 = .ok (.goto 852, 3) := dq daL_law_64_17 26 rfl
theorem dL_law_881 : decode cL_law 881 = .ok (.aload_n 1, 1) := dq daL_law_64_17 27 rfl
theorem dL_law_882 : decode cL_law 882 = .ok (.aload_n 0, 1) := dq daL_law_64_17 28 rfl
theorem dL_law_883 : decode cL_law 883 = .ok (.iload_n 3, 1) := dq daL_law_64_17 29 rfl
theorem dL_law_884 : decode cL_law 884 = .ok (.iconst 1, 1) := dq daL_law_64_17 30 rfl
theorem dL_law_885 : decode cL_law 885 = .ok (.iadd, 1) := dq daL_law_64_17 31 rfl
def dtL_law_64_18 : List (Nat × Jvm.ClassFile.Instr × Nat) := [(886, .iaload, 1), (887, .aload_n 0, 1), (888, .iload_n 3, 1), (889, .iconst 2, 1), (890, .iadd, 1), (891, .iaload, 1), (892, .aload_n 0, 1), (893, .iload_n 3, 1), (894, .iconst 3, 1), (895, .iadd, 1), (896, .iaload, 1), (897, .aload_n 0, 1), (898, .iload_n 3, 1), (899, .iconst 4, 1), (900, .iadd, 1), (901, .iaload, 1), (902, .aload_n 0, 1), (903, .iload_n 3, 1), (904, .iconst 5, 1), (905, .iadd, 1), (906, .iaload, 1), (907, .aload_n 0, 1), (908, .iload_n 3, 1), (909, .bipush 6, 2), (911, .iadd, 1), (912, .iaload, 1), (913, .aload_n 0, 1), (914, .iload_n 3, 1), (915, .bipush 7, 2), (917, .iadd, 1), (918, .iaload, 1), (919, .aload_n 0, 1)]
theorem daL_law_64_18 : dtL_law_64_18.all (dqd cL_law) = true := by decide +kernel
theorem dL_law_886 : decode cL_law 886 = .ok (.iaload, 1) := dq daL_law_64_18 0 rfl
theorem dL_law_887 : decode cL_law 887 = .ok (.aload_n 0, 1) := dq daL_law_64_18 1 rfl
theorem dL_law_888 : decode cL_law 888 = .ok (.iload_n 3, 1) := dq daL_law_64_18 2 rfl
theorem dL_law_889 : decode cL_law 889 = .ok (.iconst 2, 1) := dq daL_law_64_18 3 rfl
theorem dL_law_890 : decode cL_law 890 = .ok (.iadd, 1) := dq daL_law_64_18 4 rfl
theorem dL_law_891 : decode cL_law 891 = .ok (.iaload, 1) := dq daL_law_64_18 5 rfl
theorem dL_law_892 : decode cL_law 892 = .ok (.aload_n 0, 1) := dq daL_law_64_18 6 rfl
theorem dL_law_893 : decode cL_law 893 = .ok (.iload_n 3, 1) := dq daL_law_64_18 7 rfl
theorem dL_law_894 : decode cL_law 894 = .ok (.iconst 3, 1) := dq daL_law_64_18 8 rfl
theorem dL_law_895 : decode cL_law 895 = .ok (.iadd, 1) := dq daL_law_64_18 9 rfl
theorem dL_law_896 : decode cL_law 896 = .ok (.iaload, 1) := dq daL_law_64_18 10 rfl
theorem dL_law_897 : decode cL_law 897 = .ok (.aload_n 0, 1) := dq daL_law_64_18 11 rfl
theorem dL_law_898 : decode cL_law 898 = .ok (.iload_n 3, 1) := dq daL_law_64_18 12 rfl
theorem dL_law_899 : decode cL_law 899 = .ok (.iconst 4, 1) := dq daL_law_64_18 13 rfl
theorem dL_law_900 : decode cL_law 900 = .ok (.iadd, 1) := dq daL_law_64_18 14 rfl
theorem dL_law_901 : decode cL_law 901 = .ok (.iaload, 1) := dq daL_law_64_18 15 rfl
theorem dL_law_902 : decode cL_law 902 = .ok (.aload_n 0, 1) := dq daL_law_64_18 16 rfl
theorem dL_law_903 : decode cL_law 903 = .ok (.iload_n 3, 1) := dq daL_law_64_18 17 rfl
theorem dL_law_904 : decode cL_law 904 = .ok (.iconst 5, 1) := dq daL_law_64_18 18 rfl
theorem dL_law_905 : decode cL_law 905 = .ok (.iadd, 1) := dq daL_law_64_18 19 rfl
theorem dL_law_906 : decode cL_law 906 = .ok (.iaload, 1) := dq daL_law_64_18 20 rfl
theorem dL_law_907 : decode cL_law 907 = .ok (.aload_n 0, 1) := dq daL_law_64_18 21 rfl
theorem dL_law_908 : decode cL_law 908 = .ok (.iload_n 3, 1) := dq daL_law_64_18 22 rfl
theorem dL_law_909 : decode cL_law 909 = .ok (.bipush 6, 2) := dq daL_law_64_18 23 rfl
theorem dL_law_911 : decode cL_law 911 = .ok (.iadd, 1) := dq daL_law_64_18 24 rfl
theorem dL_law_912 : decode cL_law 912 = .ok (.iaload, 1) := dq daL_law_64_18 25 rfl
theorem dL_law_913 : decode cL_law 913 = .ok (.aload_n 0, 1) := dq daL_law_64_18 26 rfl
theorem dL_law_914 : decode cL_law 914 = .ok (.iload_n 3, 1) := dq daL_law_64_18 27 rfl
theorem dL_law_915 : decode cL_law 915 = .ok (.bipush 7, 2) := dq daL_law_64_18 28 rfl
theorem dL_law_917 : decode cL_law 917 = .ok (.iadd, 1) := dq daL_law_64_18 29 rfl
theorem dL_law_918 : decode cL_law 918 = .ok (.iaload, 1) := dq daL_law_64_18 30 rfl
theorem dL_law_919 : decode cL_law 919 = .ok (.aload_n 0, 1) := dq daL_law_64_18 31 rfl
def dtL_law_64_19 : List (Nat × Jvm.ClassFile.Instr × Nat) := [(920, .iload_n 3, 1), (921, .bipush 8, 2), (923, .iadd, 1), (924, .iaload, 1), (925, .invokevirtual 97, 3), (928, .pop, 1), (929, .aload_n 2, 1), (930, .aload_n 0, 1), (931, .iload_n 3, 1), (932, .iconst 1, 1), (933, .iadd, 1), (934, .iaload, 1), (935, .aload_n 0, 1), (936, .iload_n 3, 1), (937, .iconst 2, 1), (938, .iadd, 1), (939, .iaload, 1), (940, .aload_n 0, 1), (941, .iload_n 3, 1), (942, .iconst 3, 1), (943, .iadd, 1), (944, .iaload, 1), (945, .aload_n 0, 1), (946, .iload_n 3, 1), (947, .iconst 4, 1), (948, .iadd, 1), (949, .iaload, 1), (950, .aload_n 0, 1), (951, .iload_n 3, 1), (952, .iconst 5, 1), (953, .iadd, 1), (954, .iaload, 1)]
theorem daL_law_64_19 : dtL_law_64_19.all (dqd cL_law) = true := by decide +kernel
theorem dL_law_920 : decode cL_law 920 = .ok (.iload_n 3, 1) := dq daL_law_64_19 0 rfl
theorem dL_law_921 : decode cL_law 921 = .ok (.bipush 8, 2) := dq daL_law_64_19 1 rfl
theorem dL_law_923 : decode cL_law 923 = .ok (.iadd, 1) := dq daL_law_64_19 2 rfl
theorem dL_law_924 : decode cL_law 924 = .ok (.iaload, 1) := dq daL_law_64_19 3 rfl
theorem dL_law_925 : decode cL_law 925 = .ok (.invokevirtual 97, 3) := dq daL_law_64_19 4 rfl
theorem dL_law_928 : decode cL_law 928 = .ok (.pop, 1) := dq daL_law_64_19 5 rfl
theorem dL_law_929 : decode cL_law 929 = .ok (.aload_n 2, 1) := dq daL_law_64_19 6 rfl
theorem dL_law_930 : decode cL_law 930 = .ok (.aload_n 0, 1) := dq daL_law_64_19 7 rfl
theorem dL_law_931 : decode cL_law 931 = .ok (.iload_n 3, 1) := dq daL_law_64_19 8 rfl
theorem dL_law_932 : decode cL_law 932 = .ok (.iconst 1, 1) := dq daL_law_64_19 9 rfl
theorem dL_law_933 : decode cL_law 933 = .ok (.iadd, 1) := dq daL_law_64_19 10 rfl
theorem dL_law_934 : decode cL_law 934 = .ok (.iaload, 1) := dq daL_law_64_19 11 rfl
theorem dL_law_935 : decode cL_law 935 = .ok (.aload_n 0, 1) := dq daL_law_64_19 12 rfl
theorem dL_law_936 : decode cL_law 936 = .ok (.iload_n 3, 1) := dq daL_law_64_19 13 rfl
theorem dL_law_937 : decode cL_law 937 = .ok (.iconst 2, 1) := dq daL_law_64_19 14 rfl
theorem dL_law_938 : decode cL_law 938 = .ok (.iadd, 1) := dq daL_law_64_19 15 rfl
theorem dL_law_939 : decode cL_law 939 = .ok (.iaload, 1) := dq daL_law_64_19 16 rfl
theorem dL_law_940 : decode cL_law 940 = .ok (.aload_n 0, 1) := dq daL_law_64_19 17 rfl
theorem dL_law_941 : decode cL_law 941 = .ok (.iload_n 3, 1) := dq daL_law_64_19 18 rfl
theorem dL_law_942 : decode cL_law 942 = .ok (.iconst 3, 1) := dq daL_law_64_19 19 rfl
theorem dL_law_943 : decode cL_law 943 = .ok (.iadd, 1) := dq daL_law_64_19 20 rfl
theorem dL_law_944 : decode cL_law 944 = .ok (.iaload, 1) := dq daL_law_64_19 21 rfl
theorem dL_law_945 : decode cL_law 945 = .ok (.aload_n 0, 1) := dq daL_law_64_19 22 rfl
theorem dL_law_946 : decode cL_law 946 = .ok (.iload_n 3, 1) := dq daL_law_64_19 23 rfl
theorem dL_law_947 : decode cL_law 947 = .ok (.iconst 4, 1) := dq daL_law_64_19 24 rfl
theorem dL_law_948 : decode cL_law 948 = .ok (.iadd, 1) := dq daL_law_64_19 25 rfl
theorem dL_law_949 : decode cL_law 949 = .ok (.iaload, 1) := dq daL_law_64_19 26 rfl
theorem dL_law_950 : decode cL_law 950 = .ok (.aload_n 0, 1) := dq daL_law_64_19 27 rfl
theorem dL_law_951 : decode cL_law 951 = .ok (.iload_n 3, 1) := dq daL_law_64_19 28 rfl
theorem dL_law_952 : decode cL_law 952 = .ok (.iconst 5, 1) := dq daL_law_64_19 29 rfl
theorem dL_law_953 : decode cL_law 953 = .ok (.iadd, 1) := dq daL_law_64_19 30 rfl
theorem dL_law_954 : decode cL_law 954 = .ok (.iaload, 1) := dq daL_law_64_19 31 rfl
def dtL_law_64_20 : List (Nat × Jvm.ClassFile.Instr × Nat) := [(955, .aload_n 0, 1), (956, .iload_n 3, 1), (957, .bipush 6, 2), (959, .iadd, 1), (960, .iaload, 1), (961, .aload_n 0, 1), (962, .iload_n 3, 1), (963, .bipush 7, 2), (965, .iadd, 1), (966, .iaload, 1), (967, .aload_n 0, 1), (968, .iload_n 3, 1), (969, .bipush 8, 2), (971, .iadd, 1), (972, .iaload, 1), (973, .invokevirtual 101, 3), (976, .pop, 1), (977, .goto 753, 3), (980, .aload_n 1, 1), (981, .aload_n 0, 1), (982, .iload_n 3, 1), (983, .iconst 1, 1), (984, .iadd, 1), (985, .iaload, 1), (986, .aload_n 0, 1), (987, .iload_n 3, 1), (988, .iconst 2, 1), (989, .iadd, 1), (990, .iaload, 1), (991, .invokevirtual 102, 3), (994, .pop, 1), (995, .aload_n 2, 1)]
theorem daL_law_64_20 : dtL_law_64_20.all (dqd cL_law) = true := by decide +kernel
theorem dL_law_955 : decode cL_law 955 = .ok (.aload_n 0, 1) := dq daL_law_64_20 0 rfl
theorem dL_law_956 : decode cL_law 956 = .ok (.iload_n 3, 1) := dq daL_law_64_20 1 rfl
theorem dL_law_957 : decode cL_law 957 = .ok (.bipush 6, 2) := dq daL_law_64_20 2 rfl
theorem dL_law_959 : decode cL_law 959 = .ok (.iadd, 1) := dq daL_law_64_20 3 rfl
theorem dL_law_960 : decode cL_law 960 = .ok (.iaload, 1) := dq daL_law_64_20 4 rfl
theorem dL_law_961 : decode cL_law 961 = .ok (.aload_n 0, 1) := dq daL_law_64_20 5 rfl
theorem dL_law_962 : decode cL_law 962 = .ok (.iload_n 3, 1) := dq daL_law_64_20 6 rfl
theorem dL_law_963 : decode cL_law 963 = .ok (.bipush 7, 2) := dq daL_law_64_20 7 rfl
theorem dL_law_965 : decode cL_law 965 = .ok (.iadd, 1) := dq daL_law_64_20 8 rfl
theorem dL_law_966 : decode cL_law 966 = .ok (.iaload, 1) := dq daL_law_64_20 9 rfl
theorem dL_law_967 : decode cL_law 967 = .ok (.aload_n 0, 1) := dq daL_law_64_20 10 rfl
theorem dL_law_968 : decode cL_law 968 = .ok (.iload_n 3, 1) := dq daL_law_64_20 11 rfl
theorem dL_law_969 : decode cL_law 969 = .ok (.bipush 8, 2) := dq daL_law_64_20 12 rfl
theorem dL_law_971 : decode cL_law 971 = .ok (.iadd, 1) := dq daL_law_64_20 13 rfl
theorem dL_law_972 : decode cL_law 972 = .ok (.iaload, 1) := dq daL_law_64_20 14 rfl
theorem dL_law_973 : decode cL_law 973 = .ok (.invokevirtual 101, 3) := dq daL_law_64_20 15 rfl
theorem dL_law_976 : decode cL_law 976 = .ok (.pop, 1) := dq daL_law_64_20 16 rfl
theorem dL_law_977 : decode cL_law 977 = .ok (.goto 753, 3) := dq daL_law_64_20 17 rfl
theorem dL_law_980 : decode cL_law 980 = .ok (.aload_n 1, 1) := dq daL_law_64_20 18 rfl
theorem dL_law_981 : decode cL_law 981 = .ok (.aload_n 0, 1) := dq daL_law_64_20 19 rfl
theorem dL_law_982 : decode cL_law 982 = .ok (.iload_n 3, 1) := dq daL_law_64_20 20 rfl
theorem dL_law_983 : decode cL_law 983 = .ok (.iconst 1, 1) := dq daL_law_64_20 21 rfl
theorem dL_law_984 : decode cL_law 984 = .ok (.iadd, 1) := dq daL_law_64_20 22 rfl
theorem dL_law_985 : decode cL_law 985 = .ok (.iaload, 1) := dq daL_law_64_20 23 rfl
theorem dL_law_986 : decode cL_law 986 = .ok (.aload_n 0, 1) := dq daL_law_64_20 24 rfl
theorem dL_law_987 : decode cL_law 987 = .ok (.iload_n 3, 1) := dq daL_law_64_20 25 rfl
theorem dL_law_988 : decode cL_law 988 = .ok (.iconst 2, 1) := dq daL_law_64_20 26 rfl
theorem dL_law_989 : decode cL_law 989 = .ok (.iadd, 1) := dq daL_law_64_20 27 rfl
theorem dL_law_990 : decode cL_law 990 = .ok (.iaload, 1) := dq daL_law_64_20 28 rfl
theorem dL_law_991 : decode cL_law 991 = .ok (.invokevirtual 102, 3) := dq daL_law_64_20 29 rfl
theorem dL_law_994 : decode cL_law 994 = .ok (.pop, 1) := dq daL_law_64_20 30 rfl
theorem dL_law_995 : decode cL_law 995 = .ok (.aload_n 2, 1) := dq daL_law_64_20 31 rfl
def dtL_law_64_21 : List (Nat × Jvm.ClassFile.Instr × Nat) := [(996, .aload_n 0, 1), (997, .iload_n 3, 1), (998, .iconst 1, 1), (999, .iadd, 1), (1000, .iaload, 1), (1001, .aload_n 0, 1), (1002, .iload_n 3, 1), (1003, .iconst 2, 1), (1004, .iadd, 1), (1005, .iaload, 1), (1006, .invokevirtual 105, 3), (1009, .pop, 1), (1010, .goto 720, 3), (1013, .aload_n 1, 1), (1014, .aload_n 0, 1), (1015, .iload_n 3, 1), (1016, .iconst 1, 1), (1017, .iadd, 1), (1018, .iaload, 1), (1019, .aload_n 0, 1), (1020, .iload_n 3, 1), (1021, .iconst 2, 1), (1022, .iadd, 1), (1023, .iaload, 1), (1024, .invokevirtual 106, 3), (1027, .pop, 1), (1028, .aload_n 2, 1), (1029, .aload_n 0, 1), (1030, .iload_n 3, 1), (1031, .iconst 1, 1), (1032, .iadd, 1), (1033, .iaload, 1)]
theorem daL_law_64_21 : dtL_law_64_21.all (dqd cL_law) = true := by decide +kernel
theorem dL_law_996 : decode cL_law 996 = .ok (.aload_n 0, 1) := dq daL_law_64_21 0 rfl
theorem dL_law_997 : decode cL_law 997 = .ok (.iload_n 3, 1) := dq daL_law_64_21 1 rfl
theorem dL_law_998 : decode cL_law 998 = .ok (.iconst 1, 1) := dq daL_law_64_21 2 rfl
theorem dL_law_999 : decode cL_law 999 = .ok (.iadd, 1) := dq daL_law_64_21 3 rfl
theorem dL_law_1000 : decode cL_law 1000 = .ok (.iaload, 1) := dq daL_law_64_21 4 rfl
theorem dL_law_1001 : decode cL_law 1001 = .ok (.aload_n 0, 1) := dq daL_law_64_21 5 rfl
theorem dL_law_1002 : decode cL_law 1002 = .ok (.iload_n 3, 1) := dq daL_law_64_21 6 rfl
theorem dL_law_1003 : decode cL_law 1003 = .ok (.iconst 2, 1) := dq daL_law_64_21 7 rfl
theorem dL_law_1004 : decode cL_law 1004 = .ok (.iadd, 1) := dq daL_law_64_21 8 rfl
theorem dL_law_1005 : decode cL_law 1005 = .ok (.iaload, 1) := dq daL_law_64_21 9 rfl
theorem dL_law_1006 : decode cL_law 1006 = .ok (.invokevirtual 105, 3) := dq daL_law_64_21 10 rfl
theorem dL_law_1009 : decode cL_law 1009 = .ok (.pop, 1) := dq daL_law_64_21 11 rfl
theorem dL_law_1010 : decode cL_law 1010 = .ok (.goto 720, 3) := dq daL_law_64_21 12 rfl
theorem dL_law_1013 : decode cL_law 1013 = .ok (.aload_n 1, 1) := dq daL_law_64_21 13 rfl
theorem dL_law_1014 : decode cL_law 1014 = .ok (.aload_n 0, 1) := dq daL_law_64_21 14 rfl
theorem dL_law_1015 : decode cL_law 1015 = .ok (.iload_n 3, 1) := dq daL_law_64_21 15 rfl
theorem dL_law_1016 : decode cL_law 1016 = .ok (.iconst 1, 1) := dq daL_law_64_21 16 rfl
theorem dL_law_1017 : decode cL_law 1017 = .ok (.iadd, 1) := dq daL_law_64_21 17 rfl
theorem dL_law_1018 : decode cL_law 1018 = .ok (.iaload, 1) := dq daL_law_64_21 18 rfl
theorem dL_law_1019 : decode cL_law 1019 = .ok (.aload_n 0, 1) := dq daL_law_64_21 19 rfl
theorem dL_law_1020 : decode cL_law 1020 = .ok (.iload_n 3, 1) := dq daL_law_64_21 20 rfl
theorem dL_law_1021 : decode cL_law 1021 = .ok (.iconst 2, 1) := dq daL_law_64_21 21 rfl
theorem dL_law_1022 : decode cL_law 1022 = .ok (.iadd, 1) := dq daL_law_64_21 22 rfl
theorem dL_law_1023 : decode cL_law 1023 = .ok (.iaload, 1) := dq daL_law_64_21 23 rfl
theorem dL_law_1024 : decode cL_law 1024 = .ok (.invokevirtual 106, 3) := dq daL_law_64_21 24 rfl
theorem dL_law_1027 : decode cL_law 1027 = .ok (.pop, 1) := dq daL_law_64_21 25 rfl
theorem dL_law_1028 : decode cL_law 1028 = .ok (.aload_n 2, 1) := dq daL_law_64_21 26 rfl
theorem dL_law_1029 : decode cL_law 1029 = .ok (.aload_n 0, 1) := dq daL_law_64_21 27 rfl
theorem dL_law_1030 : decode cL_law 1030 = .ok (.iload_n 3, 1) := dq daL_law_64_21 28 rfl
theorem dL_law_1031 : decode cL_law 1031 = .ok (.iconst 1, 1) := dq daL_law_64_21 29 rfl
theorem dL_law_1032 : decode cL_law 1032 = .ok (.iadd, 1) := dq daL_law_64_21 30 rfl
theorem dL_law_1033 : decode cL_law 1033 = .ok (.iaload, 1) := dq daL_law_64_21 31 rfl
def dtL_law_64_22 : List (Nat × Jvm.ClassFile.Instr × Nat) := [(1034, .aload_n 0, 1), (1035, .iload_n 3, 1), (1036, .iconst 2, 1), (1037, .iadd, 1), (1038, .iaload, 1), (1039, .invokevirtual 109, 3), (1042, .pop, 1), (1043, .goto 687, 3), (1046, .aload_n 1, 1), (1047, .aload_n 0, 1), (1048, .iload_n 3, 1), (1049, .iconst 1, 1), (1050, .iadd, 1), (1051, .iaload, 1), (1052, .aload_n 0, 1), (1053, .iload_n 3, 1), (1054, .iconst 2, 1), (1055, .iadd, 1), (1056, .iaload, 1), (1057, .aload_n 0, 1), (1058, .iload_n 3, 1), (1059, .iconst 3, 1), (1060, .iadd, 1), (1061, .iaload, 1), (1062, .aload_n 0, 1), (1063, .iload_n 3, 1), (1064, .iconst 4, 1), (1065, .iadd, 1), (1066, .iaload, 1), (1067, .aload_n 0, 1), (1068, .iload_n 3, 1), (1069, .iconst 5, 1)]
theorem daL_law_64_22 : dtL_law_64_22.all (dqd cL_law) = true := by decide +kernel
theorem dL_law_1034 : decode cL_law 1034 = .ok (.aload_n 0, 1) := dq daL_law_64_22 0 rfl
theorem dL_law_1035 : decode cL_law 1035 = .ok (.iload_n 3, 1) := dq daL_law_64_22 1 rfl
theorem dL_law_1036 : decode cL_law 1036 = .ok (.iconst 2, 1) := dq daL_law_64_22 2 rfl
theorem dL_law_1037 : decode cL_law 1037 = .ok (.iadd, 1) := dq daL_law_64_22 3 rfl
theorem dL_law_1038 : decode cL_law 1038 = .ok (.iaload, 1) := dq daL_law_64_22 4 rfl
theorem dL_law_1039 : decode cL_law 1039 = .ok (.invokevirtual 109, 3) := dq daL_law_64_22 5 rfl
theorem dL_law_1042 : decode cL_law 1042 = .ok (.pop, 1) := dq daL_law_64_22 6 rfl
theorem dL_law_1043 : decode cL_law 1043 = .ok (.goto 687, 3) := dq daL_law_64_22 7 rfl
theorem dL_law_1046 : decode cL_law 1046 = .ok (.aload_n 1, 1) := dq daL_law_64_22 8 rfl
theorem dL_law_1047 : decode cL_law 1047 = .ok (.aload_n 0, 1) := dq daL_law_64_22 9 rfl
theorem dL_law_1048 : decode cL_law 1048 = .ok (.iload_n 3, 1) := dq daL_law_64_22 10 rfl
theorem dL_law_1049 : decode cL_law 1049 = .ok (.iconst 1, 1) := dq daL_law_64_22 11 rfl
theorem dL_law_1050 : decode cL_law 1050 = .ok (.iadd, 1) := dq daL_law_64_22 12 rfl
theorem dL_law_1051 : decode cL_law 1051 = .ok (.iaload, 1) := dq daL_law_64_22 13 rfl
theorem dL_law_1052 : decode cL_law 1052 = .ok (.aload_n 0, 1) := dq daL_law_64_22 14 rfl
theorem dL_law_1053 : decode cL_law 1053 = .ok (.iload_n 3, 1) := dq daL_law_64_22 15 rfl
theorem dL_law_1054 : decode cL_law 1054 = .ok (.iconst 2, 1) := dq daL_law_64_22 16 rfl
theorem dL_law_1055 : decode cL_law 1055 = .ok (.iadd, 1) := dq daL_law_64_22 17 rfl
theorem dL_law_1056 : decode cL_law 1056 = .ok (.iaload, 1) := dq daL_law_64_22 18 rfl
theorem dL_law_1057 : decode cL_law 1057 = .ok (.aload_n 0, 1) := dq daL_law_64_22 19 rfl
theorem dL_law_1058 : decode cL_law 1058 = .ok (.iload_n 3, 1) := dq daL_law_64_22 20 rfl
theorem dL_law_1059 : decode cL_law 1059 = .ok (.iconst 3, 1) := dq daL_law_64_22 21 rfl
theorem dL_law_1060 : decode cL_law 1060 = .ok (.iadd, 1) := dq daL_law_64_22 22 rfl
theorem dL_law_1061 : decode cL_law 1061 = .ok (.iaload, 1) := dq daL_law_64_22 23 rfl
theorem dL_law_1062 : decode cL_law 1062 = .ok (.aload_n 0, 1) := dq daL_law_64_22 24 rfl
theorem dL_law_1063 : decode cL_law 1063 = .ok (.iload_n 3, 1) := dq daL_law_64_22 25 rfl
theorem dL_law_1064 : decode cL_law 1064 = .ok (.iconst 4, 1) := dq daL_law_64_22 26 rfl
theorem dL_law_1065 : decode cL_law 1065 = .ok (.iadd, 1) := dq daL_law_64_22 27 rfl
theorem dL_law_1066 : decode cL_law 1066 = .ok (.iaload, 1) := dq daL_law_64_22 28 rfl
theorem dL_law_1067 : decode cL_law 1067 = .ok (.aload_n 0, 1) := dq daL_law_64_22 29 rfl
theorem dL_law_1068 : decode cL_law 1068 = .ok (.iload_n 3, 1) := dq daL_law_64_22 30 rfl
theorem dL_law_1069 : decode cL_law 1069 = .ok (.iconst 5, 1) := dq daL_law_64_22 31 rfl
def dtL_law_64_23 : List (Nat × Jvm.ClassFile.Instr × Nat) := [(1070, .iadd, 1), (1071, .iaload, 1), (1072, .aload_n 0, 1), (1073, .iload_n 3, 1), (1074, .bipush 6, 2), (1076, .iadd, 1), (1077, .iaload, 1), (1078, .invokevirtual 110, 3), (1081, .pop, 1), (1082, .aload_n 2, 1), (1083, .aload_n 0, 1), (1084, .iload_n 3, 1), (1085, .iconst 1, 1), (1086, .iadd, 1), (1087, .iaload, 1), (1088, .aload_n 0, 1), (1089, .iload_n 3, 1), (1090, .iconst 2, 1), (1091, .iadd, 1), (1092, .iaload, 1), (1093, .aload_n 0, 1), (1094, .iload_n 3, 1), (1095, .iconst 3, 1), (1096, .iadd, 1), (1097, .iaload, 1), (1098, .aload_n 0, 1), (1099, .iload_n 3, 1), (1100, .iconst 4, 1), (1101, .iadd, 1), (1102, .iaload, 1), (1103, .aload_n 0, 1), (1104, .iload_n 3, 1)]
theorem daL_law_64_23 : dtL_law_64_23.all (dqd cL_law) = true := by decide +kernel
theorem dL_law_1070 : decode cL_law 1070 = .ok (.iadd, 1) := dq daL_law_64_23 0 rfl
theorem dL_law_1071 : decode cL_law 1071 = .ok (.iaload, 1) := dq daL_law_64_23 1 rfl
theorem dL_law_1072 : decode cL_law 1072 = .ok (.aload_n 0, 1) := dq daL_law_64_23 2 rfl
theorem dL_law_1073 : decode cL_law 1073 = .ok (.iload_n 3, 1) := dq daL_law_64_23 3 rfl
theorem dL_law_1074 : decode cL_law 1074 = .ok (.bipush 6, 2) := dq daL_law_64_23 4 rfl
theorem dL_law_1076 : decode cL_law 1076 = .ok (.iadd, 1) := dq daL_law_64_23 5 rfl
theorem dL_law_1077 : decode cL_law 1077 = .ok (.iaload, 1) := dq daL_law_64_23 6 rfl
theorem dL_law_1078 : decode cL_law 1078 = .ok (.invokevirtual 110, 3) := dq daL_law_64_23 7 rfl
theorem dL_law_1081 : decode cL_law 1081 = .ok (.pop, 1) := dq daL_law_64_23 8 rfl
theorem dL_law_1082 : decode cL_law 1082 = .ok (.aload_n 2, 1) := dq daL_law_64_23 9 rfl
theorem dL_law_1083 : decode cL_law 1083 = .ok (.aload_n 0, 1) := dq daL_law_64_23 10 rfl
theorem dL_law_1084 : decode cL_law 1084 = .ok (.iload_n 3, 1) := dq daL_law_64_23 11 rfl
theorem dL_law_1085 : decode cL_law 1085 = .ok (.iconst 1, 1) := dq daL_law_64_23 12 rfl
theorem dL_law_1086 : decode cL_law 1086 = .ok (.iadd, 1) := dq daL_law_64_23 13 rfl
theorem dL_law_1087 : decode cL_law 1087 = .ok (.iaload, 1) := dq daL_law_64_23 14 rfl
theorem dL_law_1088 : decode cL_law 1088 = .ok (.aload_n 0, 1) := dq daL_law_64_23 15 rfl
theorem dL_law_1089 : decode cL_law 1089 = .ok (.iload_n 3, 1) := dq daL_law_64_23 16 rfl
theorem dL_law_1090 : decode cL_law 1090 = .ok (.iconst 2, 1) := dq daL_law_64_23 17 rfl
theorem dL_law_1091 : decode cL_law 1091 = .ok (.iadd, 1) := dq daL_law_64_23 18 rfl
theorem dL_law_1092 : decode cL_law 1092 = .ok (.iaload, 1) := dq daL_law_64_23 19 rfl
theorem dL_law_1093 : decode cL_law 1093 = .ok (.aload_n 0, 1) := dq daL_law_64_23 20 rfl
theorem dL_law_1094 : decode cL_law 1094 = .ok (.iload_n 3, 1) := dq daL_law_64_23 21 rfl
theorem dL_law_1095 : decode cL_law 1095 = .ok (.iconst 3, 1) := dq daL_law_64_23 22 rfl
theorem dL_law_1096 : decode cL_law 1096 = .ok (.iadd, 1) := dq daL_law_64_23 23 rfl
theorem dL_law_1097 : decode cL_law 1097 = .ok (.iaload, 1) := dq daL_law_64_23 24 rfl
theorem dL_law_1098 : decode cL_law 1098 = .ok (.aload_n 0, 1) := dq daL_law_64_23 25 rfl
theorem dL_law_1099 : decode cL_law 1099 = .ok (.iload_n 3, 1) := dq daL_law_64_23 26 rfl
theorem dL_law_1100 : decode cL_law 1100 = .ok (.iconst 4, 1) := dq daL_law_64_23 27 rfl
theorem dL_law_1101 : decode cL_law 1101 = .ok (.iadd, 1) := dq daL_law_64_23 28 rfl
theorem dL_law_1102 : decode cL_law 1102 = .ok (.iaload, 1) := dq daL_law_64_23 29 rfl
theorem dL_law_1103 : decode cL_law 1103 = .ok (.aload_n 0, 1) := dq daL_law_64_23 30 rfl
theorem dL_law_1104 : decode cL_law 1104 = .ok (.iload_n 3, 1) := dq daL_law_64_23 31 rfl
def dtL_law_64_24 : List (Nat × Jvm.ClassFile.Instr × Nat) := [(1105, .iconst 5, 1), (1106, .iadd, 1), (1107, .iaload, 1), (1108, .aload_n 0, 1), (1109, .iload_n 3, 1), (1110, .bipush 6, 2), (1112, .iadd, 1), (1113, .iaload, 1), (1114, .invokevirtual 113, 3), (1117, .pop, 1), (1118, .goto 612, 3), (1121, .aload_n 1, 1), (1122, .aload_n 0, 1), (1123, .iload_n 3, 1), (1124, .iconst 1, 1), (1125, .iadd, 1), (1126, .iaload, 1), (1127, .aload_n 0, 1), (1128, .iload_n 3, 1), (1129, .iconst 2, 1), (1130, .iadd, 1), (1131, .iaload, 1), (1132, .aload_n 0, 1), (1133, .iload_n 3, 1), (1134, .iconst 3, 1), (1135, .iadd, 1), (1136, .iaload, 1), (1137, .aload_n 0, 1), (1138, .iload_n 3, 1), (1139, .iconst 4, 1), (1140, .iadd, 1), (1141, .iaload, 1)]
theorem daL_law_64_24 : dtL_law_64_24.all (dqd cL_law) = true := by decide +kernel
theorem dL_law_1105 : decode cL_law 1105 = .ok (.iconst 5, 1) := dq daL_law_64_24 0 rfl
theorem dL_law_1106 : decode cL_law 1106 = .ok (.iadd, 1) := dq daL_law_64_24 1 rfl
theorem dL_law_1107 : decode cL_law 1107 = .ok (.iaload, 1) := dq daL_law_64_24 2 rfl
theorem dL_law_1108 : decode cL_law 1108 = .ok (.aload_n 0, 1) := dq daL_law_64_24 3 rfl
theorem dL_law_1109 : decode cL_law 1109 = .ok (.iload_n 3, 1) := dq daL_law_64_24 4 rfl
theorem dL_law_1110 : decode cL_law 1110 = .ok (.bipush 6, 2) := dq daL_law_64_24 5 rfl
theorem dL_law_1112 : decode cL_law 1112 = .ok (.iadd, 1) := dq daL_law_64_24 6 rfl
theorem dL_law_1113 : decode cL_law 1113 = .ok (.iaload, 1) := dq daL_law_64_24 7 rfl
theorem dL_law_1114 : decode cL_law 1114 = .ok (.invokevirtual 113, 3) := dq daL_law_64_24 8 rfl
theorem dL_law_1117 : decode cL_law 1117 = .ok (.pop, 1) := dq daL_law_64_24 9 rfl
theorem dL_law_1118 : decode cL_law 1118 = .ok (.goto 612, 3) := dq daL_law_64_24 10 rfl
theorem dL_law_1121 : decode cL_law 1121 = .ok (.aload_n 1, 1) := dq daL_law_64_24 11 rfl
theorem dL_law_1122 : decode cL_law 1122 = .ok (.aload_n 0, 1) := dq daL_law_64_24 12 rfl
theorem dL_law_1123 : decode cL_law 1123 = .ok (.iload_n 3, 1) := dq daL_law_64_24 13 rfl
theorem dL_law_1124 : decode cL_law 1124 = .ok (.iconst 1, 1) := dq daL_law_64_24 14 rfl
theorem dL_law_1125 : decode cL_law 1125 = .ok (.iadd, 1) := dq daL_law_64_24 15 rfl
theorem dL_law_1126 : decode cL_law 1126 = .ok (.iaload, 1) := dq daL_law_64_24 16 rfl
theorem dL_law_1127 : decode cL_law 1127 = .ok (.aload_n 0, 1) := dq daL_law_64_24 17 rfl
theorem dL_law_1128 : decode cL_law 1128 = .ok (.iload_n 3, 1) := dq daL_law_64_24 18 rfl
theorem dL_law_1129 : decode cL_law 1129 = .ok (.iconst 2, 1) := dq daL_law_64_24 19 rfl
theorem dL_law_1130 : decode cL_law 1130 = .ok (.iadd, 1) := dq daL_law_64_24 20 rfl
theorem dL_law_1131 : decode cL_law 1131 = .ok (.iaload, 1) := dq daL_law_64_24 21 rfl
theorem dL_law_1132 : decode cL_law 1132 = .ok (.aload_n 0, 1) := dq daL_law_64_24 22 rfl
theorem dL_law_1133 : decode cL_law 1133 = .ok (.iload_n 3, 1) := dq daL_law_64_24 23 rfl
theorem dL_law_1134 : decode cL_law 1134 = .ok (.iconst 3, 1) := dq daL_law_64_24 24 rfl
theorem dL_law_1135 : decode cL_law 1135 = .ok (.iadd, 1) := dq daL_law_64_24 25 rfl
theorem dL_law_1136 : decode cL_law 1136 = .ok (.iaload, 1) := dq daL_law_64_24 26 rfl
theorem dL_law_1137 : decode cL_law 1137 = .ok (.aload_n 0, 1) := dq daL_law_64_24 27 rfl
theorem dL_law_1138 : decode cL_law 1138 = .ok (.iload_n 3, 1) := dq daL_law_64_24 28 rfl
theorem dL_law_1139 : decode cL_law 1139 = .ok (.iconst 4, 1) := dq daL_law_64_24 29 rfl
theorem dL_law_1140 : decode cL_law 1140 = .ok (.iadd, 1) := dq daL_law_64_24 30 rfl
theorem dL_law_1141 : decode cL_law 1141 = .ok (.iaload, 1) := dq daL_law_64_24 31 rfl
def dtL_law_64_25 : List (Nat × Jvm.ClassFile.Instr × Nat) := [(1142, .aload_n 0, 1), (1143, .iload_n 3, 1), (1144, .iconst 5, 1), (1145, .iadd, 1), (1146, .iaload, 1), (1147, .aload_n 0, 1), (1148, .iload_n 3, 1), (1149, .bipush 6, 2), (1151, .iadd, 1), (1152, .iaload, 1), (1153, .aload_n 0, 1), (1154, .iload_n 3, 1), (1155, .bipush 7, 2), (1157, .iadd, 1), (1158, .iaload, 1), (1159, .aload_n 0, 1), (1160, .iload_n 3, 1), (1161, .bipush 8, 2), (1163, .iadd, 1), (1164, .iaload, 1), (1165, .aload_n 0, 1), (1166, .iload_n 3, 1), (1167, .bipush 9, 2), (1169, .iadd, 1), (1170, .iaload, 1), (1171, .invokevirtual 114, 3), (1174, .pop, 1), (1175, .aload_n 2, 1), (1176, .aload_n 0, 1), (1177, .iload_n 3, 1), (1178, .iconst 1, 1), (1179, .iadd, 1)]
theorem daL_law_64_25 : dtL_law_64_25.all (dqd cL_law) = true := by decide +kernel
theorem dL_law_1142 : decode cL_law 1142 = .ok (.aload_n 0, 1) := dq daL_law_64_25 0 rfl
theorem dL_law_1143 : decode cL_law 1143 = .ok (.iload_n 3, 1) := dq daL_law_64_25 1 rfl
theorem dL_law_1144 : decode cL_law 1144 = .ok (.iconst 5, 1) := dq daL_law_64_25 2 rfl
theorem dL_law_1145 : decode cL_law 1145 = .ok (.iadd, 1) := dq daL_law_64_25 3 rfl
theorem dL_law_1146 : decode cL_law 1146 = .ok (.iaload, 1) := dq daL_law_64_25 4 rfl
theorem dL_law_1147 : decode cL_law 1147 = .ok (.aload_n 0, 1) := dq daL_law_64_25 5 rfl
theorem dL_law_1148 : decode cL_law 1148 = .ok (.iload_n 3, 1) := dq daL_law_64_25 6 rfl
theorem dL_law_1149 : decode cL_law 1149 = .ok (.bipush 6, 2) := dq daL_law_64_25 7 rfl
theorem dL_law_1151 : decode cL_law 1151 = .ok (.iadd, 1) := dq daL_law_64_25 8 rfl
theorem dL_law_1152 : decode cL_law 1152 = .ok (.iaload, 1) := dq daL_law_64_25 9 rfl
theorem dL_law_1153 : decode cL_law 1153 = .ok (.aload_n 0, 1) := dq daL_law_64_25 10 rfl
theorem dL_law_1154 : decode cL_law 1154 = .ok (.iload_n 3, 1) := dq daL_law_64_25 11 rfl
theorem dL_law_1155 : decode cL_law 1155 = .ok (.bipush 7, 2) := dq daL_law_64_25 12 rfl
theorem dL_law_1157 : decode cL_law 1157 = .ok (.iadd, 1) := dq daL_law_64_25 13 rfl
theorem dL_law_1158 : decode cL_law 1158 = .ok (.iaload, 1) := dq daL_law_64_25 14 rfl
theorem dL_law_1159 : decode cL_law 1159 = .ok (.aload_n 0, 1) := dq daL_law_64_25 15 rfl
theorem dL_law_1160 : decode cL_law 1160 = .ok (.iload_n 3, 1) := dq daL_law_64_25 16 rfl
theorem dL_law_1161 : decode cL_law 1161 = .ok (.bipush 8, 2) := dq daL_law_64_25 17 rfl
theorem dL_law_1163 : decode cL_law 1163 = .ok (.iadd, 1) := dq daL_law_64_25 18 rfl
theorem dL_law_1164 : decode cL_law 1164 = .ok (.iaload, 1) := dq daL_law_64_25 19 rfl
theorem dL_law_1165 : decode cL_law 1165 = .ok (.aload_n 0, 1) := dq daL_law_64_25 20 rfl
theorem dL_law_1166 : decode cL_law 1166 = .ok (.iload_n 3, 1) := dq daL_law_64_25 21 rfl
theorem dL_law_1167 : decode cL_law 1167 = .ok (.bipush 9, 2) := dq daL_law_64_25 22 rfl
theorem dL_law_1169 : decode cL_law 1169 = .ok (.iadd, 1) := dq daL_law_64_25 23 rfl
theorem dL_law_1170 : decode cL_law 1170 = .ok (.iaload, 1) := dq daL_law_64_25 24 rfl
theorem dL_law_1171 : decode cL_law 1171 = .ok (.invokevirtual 114, 3) := dq daL_law_64_25 25 rfl
theorem dL_law_1174 : decode cL_law 1174 = .ok (.pop, 1) := dq daL_law_64_25 26 rfl
theorem dL_law_1175 : decode cL_law 1175 = .ok (.aload_n 2, 1) := dq daL_law_64_25 27 rfl
theorem dL_law_1176 : decode cL_law 1176 = .ok (.aload_n 0, 1) := dq daL_law_64_25 28 rfl
theorem dL_law_1177 : decode cL_law 1177 = .ok (.iload_n 3, 1) := dq daL_law_64_25 29 rfl
theorem dL_law_1178 : decode cL_law 1178 = .ok (.iconst 1, 1) := dq daL_law_64_25 30 rfl
theorem dL_law_1179 : decode cL_law 1179 = .ok (.iadd, 1) := dq daL_law_64_25 31 rfl
def dtL_law_64_26 : List (Nat × Jvm.ClassFile.Instr × Nat) := [(1180, .iaload, 1), (1181, .aload_n 0, 1), (1182, .iload_n 3, 1), (1183, .iconst 2, 1), (1184, .iadd, 1), (1185, .iaload, 1), (1186, .aload_n 0, 1), (1187, .iload_n 3, 1), (1188, .iconst 3, 1), (1189, .iadd, 1), (1190, .iaload, 1), (1191, .aload_n 0, 1), (1192, .iload_n 3, 1), (1193, .iconst 4, 1), (1194, .iadd, 1), (1195, .iaload, 1), (1196, .aload_n 0, 1), (1197, .iload_n 3, 1), (1198, .iconst 5, 1), (1199, .iadd, 1), (1200, .iaload, 1), (1201, .aload_n 0, 1), (1202, .iload_n 3, 1), (1203, .bipush 6, 2), (1205, .iadd, 1), (1206, .iaload, 1), (1207, .aload_n 0, 1), (1208, .iload_n 3, 1), (1209, .bipush 7, 2), (1211, .iadd, 1), (1212, .iaload, 1), (1213, .aload_n 0, 1)]
theorem daL_law_64_26 : dtL_law_64_26.all (dqd cL_law) = true := by decide +kernel
theorem dL_law_1180 : decode cL_law 1180 = .ok (.iaload, 1) := dq daL_law_64_26 0 rfl
theorem dL_law_1181 : decode cL_law 1181 = .ok (.aload_n 0, 1) := dq daL_law_64_26 1 rfl
theorem dL_law_1182 : decode cL_law 1182 = .ok (.iload_n 3, 1) := dq daL_law_64_26 2 rfl
theorem dL_law_1183 : decode cL_law 1183 = .ok (.iconst 2, 1) := dq daL_law_64_26 3 rfl
theorem dL_law_1184 : decode cL_law 1184 = .ok (.iadd, 1) := dq daL_law_64_26 4 rfl
theorem dL_law_1185 : decode cL_law 1185 = .ok (.iaload, 1) := dq daL_law_64_26 5 rfl
theorem dL_law_1186 : decode cL_law 1186 = .ok (.aload_n 0, 1) := dq daL_law_64_26 6 rfl
theorem dL_law_1187 : decode cL_law 1187 = .ok (.iload_n 3, 1) := dq daL_law_64_26 7 rfl
theorem dL_law_1188 : decode cL_law 1188 = .ok (.iconst 3, 1) := dq daL_law_64_26 8 rfl
theorem dL_law_1189 : decode cL_law 1189 = .ok (.iadd, 1) := dq daL_law_64_26 9 rfl
theorem dL_law_1190 : decode cL_law 1190 = .ok (.iaload, 1) := dq daL_law_64_26 10 rfl
theorem dL_law_1191 : decode cL_law 1191 = .ok (.aload_n 0, 1) := dq daL_law_64_26 11 rfl
theorem dL_law_1192 : decode cL_law 1192 = .ok (.iload_n 3, 1) := dq daL_law_64_26 12 rfl
theorem dL_law_1193 : decode cL_law 1193 = .ok (.iconst 4, 1) := dq daL_law_64_26 13 rfl
theorem dL_law_1194 : decode cL_law 1194 = .ok (.iadd, 1) := dq daL_law_64_26 14 rfl
theorem dL_law_1195 : decode cL_law 1195 = .ok (.iaload, 1) := dq daL_law_64_26 15 rfl
theorem dL_law_1196 : decode cL_law 1196 = .ok (.aload_n 0, 1) := dq daL_law_64_26 16 rfl
theorem dL_law_1197 : decode cL_law 1197 = .ok (.iload_n 3, 1) := dq daL_law_64_26 17 rfl
theorem dL_law_1198 : decode cL_law 1198 = .ok (.iconst 5, 1) := dq daL_law_64_26 18 rfl
theorem dL_law_1199 : decode cL_law 1199 = .ok (.iadd, 1) := dq daL_law_64_26 19 rfl
theorem dL_law_1200 : decode cL_law 1200 = .ok (.iaload, 1) := dq daL_law_64_26 20 rfl
theorem dL_law_1201 : decode cL_law 1201 = .ok (.aload_n 0, 1) := dq daL_law_64_26 21 rfl
theorem dL_law_1202 : decode cL_law 1202 = .ok (.iload_n 3, 1) := dq daL_law_64_26 22 rfl
theorem dL_law_1203 : decode cL_law 1203 = .ok (.bipush 6, 2) := dq daL_law_64_26 23 rfl
theorem dL_law_1205 : decode cL_law 1205 = .ok (.iadd, 1) := dq daL_law_64_26 24 rfl
theorem dL_law_1206 : decode cL_law 1206 = .ok (.iaload, 1) := dq daL_law_64_26 25 rfl
theorem dL_law_1207 : decode cL_law 1207 = .ok (.aload_n 0, 1) := dq daL_law_64_26 26 rfl
theorem dL_law_1208 : decode cL_law 1208 = .ok (.iload_n 3, 1) := dq daL_law_64_26 27 rfl
theorem dL_law_1209 : decode cL_law 1209 = .ok (.bipush 7, 2) := dq daL_law_64_26 28 rfl
theorem dL_law_1211 : decode cL_law 1211 = .ok (.iadd, 1) := dq daL_law_64_26 29 rfl
theorem dL_law_1212 : decode cL_law 1212 = .ok (.iaload, 1) := dq daL_law_64_26 30 rfl
theorem dL_law_1213 : decode cL_law 1213 = .ok (.aload_n 0, 1) := dq daL_law_64_26 31 rfl
def dtL_law_64_27 : List (Nat × Jvm.ClassFile.Instr × Nat) := [(1214, .iload_n 3, 1), (1215, .bipush 8, 2), (1217, .iadd, 1), (1218, .iaload, 1), (1219, .aload_n 0, 1), (1220, .iload_n 3, 1), (1221, .bipush 9, 2), (1223, .iadd, 1), (1224, .iaload, 1), (1225, .invokevirtual 118, 3), (1228, .pop, 1), (1229, .goto 501, 3), (1232, .aload_n 1, 1), (1233, .aload_n 0, 1), (1234, .iload_n 3, 1), (1235, .iconst 1, 1), (1236, .iadd, 1), (1237, .iaload, 1), (1238, .aload_n 0, 1), (1239, .iload_n 3, 1), (1240, .iconst 2, 1), (1241, .iadd, 1), (1242, .iaload, 1), (1243, .aload_n 0, 1), (1244, .iload_n 3, 1), (1245, .iconst 3, 1), (1246, .iadd, 1), (1247, .iaload, 1), (1248, .aload_n 0, 1), (1249, .iload_n 3, 1), (1250, .iconst 4, 1), (1251, .iadd, 1)]
theorem daL_law_64_27 : dtL_law_64_27.all (dqd cL_law) = true := by decide +kernel
theorem dL_law_1214 : decode cL_law 1214 = .ok (.iload_n 3, 1) := dq daL_law_64_27 0 rfl
theorem dL_law_1215 : decode cL_law 1215 = .ok (.bipush 8, 2) := dq daL_law_64_27 1 rfl
theorem dL_law_1217 : decode cL_law 1217 = .ok (.iadd, 1) := dq daL_law_64_27 2 rfl
theorem dL_law_1218 : decode cL_law 1218 = .ok (.iaload, 1) := dq daL_law_64_27 3 rfl
theorem dL_law_1219 : decode cL_law 1219 = .ok (.aload_n 0, 1) := dq daL_law_64_27 4 rfl
theorem dL_law_1220 : decode cL_law 1220 = .ok (.iload_n 3, 1) := dq daL_law_64_27 5 rfl
theorem dL_law_1221 : decode cL_law 1221 = .ok (.bipush 9, 2) := dq daL_law_64_27 6 rfl
theorem dL_law_1223 : decode cL_law 1223 = .ok (.iadd, 1) := dq daL_law_64_27 7 rfl
theorem dL_law_1224 : decode cL_law 1224 = .ok (.iaload, 1) := dq daL_law_64_27 8 rfl
theorem dL_law_1225 : decode cL_law 1225 = .ok (.invokevirtual 118, 3) := dq daL_law_64_27 9 rfl
theorem dL_law_1228 : decode cL_law 1228 = .ok (.pop, 1) := dq daL_law_64_27 10 rfl
theorem dL_law_1229 : decode cL_law 1229 = .ok (.goto 501, 3) := dq daL_law_64_27 11 rfl
theorem dL_law_1232 : decode cL_law 1232 = .ok (.aload_n 1, 1) := dq daL_law_64_27 12 rfl
theorem dL_law_1233 : decode cL_law 1233 = .ok (.aload_n 0, 1) := dq daL_law_64_27 13 rfl
theorem dL_law_1234 : decode cL_law 1234 = .ok (.iload_n 3, 1) := dq daL_law_64_27 14 rfl
theorem dL_law_1235 : decode cL_law 1235 = .ok (.iconst 1, 1) := dq daL_law_64_27 15 rfl
theorem dL_law_1236 : decode cL_law 1236 = .ok (.iadd, 1) := dq daL_law_64_27 16 rfl
theorem dL_law_1237 : decode cL_law 1237 = .ok (.iaload, 1) := dq daL_law_64_27 17 rfl
theorem dL_law_1238 : decode cL_law 1238 = .ok (.aload_n 0, 1) := dq daL_law_64_27 18 rfl
theorem dL_law_1239 : decode cL_law 1239 = .ok (.iload_n 3, 1) := dq daL_law_64_27 19 rfl
theorem dL_law_1240 : decode cL_law 1240 = .ok (.iconst 2, 1) := dq daL_law_64_27 20 rfl
theorem dL_law_1241 : decode cL_law 1241 = .ok (.iadd, 1) := dq daL_law_64_27 21 rfl
theorem dL_law_1242 : decode cL_law 1242 = .ok (.iaload, 1) := dq daL_law_64_27 22 rfl
theorem dL_law_1243 : decode cL_law 1243 = .ok (.aload_n 0, 1) := dq daL_law_64_27 23 rfl
theorem dL_law_1244 : decode cL_law 1244 = .ok (.iload_n 3, 1) := dq daL_law_64_27 24 rfl
theorem dL_law_1245 : decode cL_law 1245 = .ok (.iconst 3, 1) := dq daL_law_64_27 25 rfl
theorem dL_law_1246 : decode cL_law 1246 = .ok (.iadd, 1) := dq daL_law_64_27 26 rfl
theorem dL_law_1247 : decode cL_law 1247 = .ok (.iaload, 1) := dq daL_law_64_27 27 rfl
theorem dL_law_1248 : decode cL_law 1248 = .ok (.aload_n 0, 1) := dq daL_law_64_27 28 rfl
theorem dL_law_1249 : decode cL_law 1249 = .ok (.iload_n 3, 1) := dq daL_law_64_27 29 rfl
theorem dL_law_1250 : decode cL_law 1250 = .ok (.iconst 4, 1) := dq daL_law_64_27 30 rfl
theorem dL_law_1251 : decode cL_law 1251 = .ok (.iadd, 1) := dq daL_law_64_27 31 rfl
def dtL_law_64_28 : List (Nat × Jvm.ClassFile.Instr × Nat) := [(1252, .iaload, 1), (1253, .invokevirtual 119, 3), (1256, .pop, 1), (1257, .aload_n 2, 1), (1258, .aload_n 0, 1), (1259, .iload_n 3, 1), (1260, .iconst 1, 1), (1261, .iadd, 1), (1262, .iaload, 1), (1263, .aload_n 0, 1), (1264, .iload_n 3, 1), (1265, .iconst 2, 1), (1266, .iadd, 1), (1267, .iaload, 1), (1268, .aload_n 0, 1), (1269, .iload_n 3, 1), (1270, .iconst 3, 1), (1271, .iadd, 1), (1272, .iaload, 1), (1273, .aload_n 0, 1), (1274, .iload_n 3, 1), (1275, .iconst 4, 1), (1276, .iadd, 1), (1277, .iaload, 1), (1278, .invokevirtual 123, 3), (1281, .pop, 1), (1282, .goto 448, 3), (1285, .aload_n 1, 1), (1286, .aload_n 0, 1), (1287, .iload_n 3, 1), (1288, .iconst 1, 1), (1289, .iadd, 1)]
theorem daL_law_64_28 : dtL_law_64_28.all (dqd cL_law) = true := by decide +kernel
theorem dL_law_1252 : decode cL_law 1252 = .ok (.iaload, 1) := dq daL_law_64_28 0 rfl
theorem dL_law_1253 : decode cL_law 1253 = .ok (.invokevirtual 119, 3) := dq daL_law_64_28 1 rfl
theorem dL_law_1256 : decode cL_law 1256 = .ok (.pop, 1) := dq daL_law_64_28 2 rfl
theorem dL_law_1257 : decode cL_law 1257 = .ok (.aload_n 2, 1) := dq daL_law_64_28 3 rfl
theorem dL_law_1258 : decode cL_law 1258 = .ok (.aload_n 0, 1) := dq daL_law_64_28 4 rfl
theorem dL_law_1259 : decode cL_law 1259 = .ok (.iload_n 3, 1) := dq daL_law_64_28 5 rfl
theorem dL_law_1260 : decode cL_law 1260 = .ok (.iconst 1, 1) := dq daL_law_64_28 6 rfl
theorem dL_law_1261 : decode cL_law 1261 = .ok (.iadd, 1) := dq daL_law_64_28 7 rfl
theorem dL_law_1262 : decode cL_law 1262 = .ok (.iaload, 1) := dq daL_law_64_28 8 rfl
theorem dL_law_1263 : decode cL_law 1263 = .ok (.aload_n 0, 1) := dq daL_law_64_28 9 rfl
theorem dL_law_1264 : decode cL_law 1264 = .ok (.iload_n 3, 1) := dq daL_law_64_28 10 rfl
theorem dL_law_1265 : decode cL_law 1265 = .ok (.iconst 2, 1) := dq daL_law_64_28 11 rfl
theorem dL_law_1266 : decode cL_law 1266 = .ok (.iadd, 1) := dq daL_law_64_28 12 rfl
theorem dL_law_1267 : decode cL_law 1267 = .ok (.iaload, 1) := dq daL_law_64_28 13 rfl
theorem dL_law_1268 : decode cL_law 1268 = .ok (.aload_n 0, 1) := dq daL_law_64_28 14 rfl
theorem dL_law_1269 : decode cL_law 1269 = .ok (.iload_n 3, 1) := dq daL_law_64_28 15 rfl
theorem dL_law_1270 : decode cL_law 1270 = .ok (.iconst 3, 1) := dq daL_law_64_28 16 rfl
theorem dL_law_1271 : decode cL_law 1271 = .ok (.iadd, 1) := dq daL_law_64_28 17 rfl
theorem dL_law_1272 : decode cL_law 1272 = .ok (.iaload, 1) := dq daL_law_64_28 18 rfl
theorem dL_law_1273 : decode cL_law 1273 = .ok (.aload_n 0, 1) := dq daL_law_64_28 19 rfl
theorem dL_law_1274 : decode cL_law 1274 = .ok (.iload_n 3, 1) := dq daL_law_64_28 20 rfl
theorem dL_law_1275 : decode cL_law 1275 = .ok (.iconst 4, 1) := dq daL_law_64_28 21 rfl
theorem dL_law_1276 : decode cL_law 1276 = .ok (.iadd, 1) := dq daL_law_64_28 22 rfl
theorem dL_law_1277 : decode cL_law 1277 = .ok (.iaload, 1) := dq daL_law_64_28 23 rfl
theorem dL_law_1278 : decode cL_law 1278 = .ok (.invokevirtual 123, 3) := dq daL_law_64_28 24 rfl
theorem dL_law_1281 : decode cL_law 1281 = .ok (.pop, 1) := dq daL_law_64_28 25 rfl
theorem dL_law_1282 : decode cL_law 1282 = .ok (.goto 448, 3) := dq daL_law_64_28 26 rfl
theorem dL_law_1285 : decode cL_law 1285 = .ok (.aload_n 1, 1) := dq daL_law_64_28 27 rfl
theorem dL_law_1286 : decode cL_law 1286 = .ok (.aload_n 0, 1) := dq daL_law_64_28 28 rfl
theorem dL_law_1287 : decode cL_law 1287 = .ok (.iload_n 3, 1) := dq daL_law_64_28 29 rfl
theorem dL_law_1288 : decode cL_law 1288 = .ok (.iconst 1, 1) := dq daL_law_64_28 30 rfl
theorem dL_law_1289 : decode cL_law 1289 = .ok (.iadd, 1) := dq daL_law_64_28 31 rfl
def dtL_law_64_29 : List (Nat × Jvm.ClassFile.Instr × Nat) := [(1290, .iaload, 1), (1291, .aload_n 0, 1), (1292, .iload_n 3, 1), (1293, .iconst 2, 1), (1294, .iadd, 1), (1295, .iaload, 1), (1296, .aload_n 0, 1), (1297, .iload_n 3, 1), (1298, .iconst 3, 1), (1299, .iadd, 1), (1300, .iaload, 1), (1301, .invokevirtual 124, 3), (1304, .pop, 1), (1305, .aload_n 2, 1), (1306, .aload_n 0, 1), (1307, .iload_n 3, 1), (1308, .iconst 1, 1), (1309, .iadd, 1), (1310, .iaload, 1), (1311, .aload_n 0, 1), (1312, .iload_n 3, 1), (1313, .iconst 2, 1), (1314, .iadd, 1), (1315, .iaload, 1), (1316, .aload_n 0, 1), (1317, .iload_n 3, 1), (1318, .iconst 3, 1), (1319, .iadd, 1), (1320, .iaload, 1), (1321, .invokevirtual 127, 3), (1324, .pop, 1), (1325, .goto 405, 3)]
theorem daL_law_64_29 : dtL_law_64_29.all (dqd cL_law) = true := by decide +kernel
theorem dL_law_1290 : decode cL_law 1290 = .ok (.iaload, 1) := dq daL_law_64_29 0 rfl
theorem dL_law_1291 : decode cL_law 1291 = .ok (.aload_n 0, 1) := dq daL_law_64_29 1 rfl
theorem dL_law_1292 : decode cL_law 1292 = .ok (.iload_n 3, 1) := dq daL_law_64_29 2 rfl
theorem dL_law_1293 : decode cL_law 1293 = .ok (.iconst 2, 1) := dq daL_law_64_29 3 rfl
theorem dL_law_1294 : decode cL_law 1294 = .ok (.iadd, 1) := dq daL_law_64_29 4 rfl
theorem dL_law_1295 : decode cL_law 1295 = .ok (.iaload, 1) := dq daL_law_64_29 5 rfl
theorem dL_law_1296 : decode cL_law 1296 = .ok (.aload_n 0, 1) := dq daL_law_64_29 6 rfl
theorem dL_law_1297 : decode cL_law 1297 = .ok (.iload_n 3, 1) := dq daL_law_64_29 7 rfl
theorem dL_law_1298 : decode cL_law 1298 = .ok (.iconst 3, 1) := dq daL_law_64_29 8 rfl
theorem dL_law_1299 : decode cL_law 1299 = .ok (.iadd, 1) := dq daL_law_64_29 9 rfl
theorem dL_law_1300 : decode cL_law 1300 = .ok (.iaload, 1) := dq daL_law_64_29 10 rfl
theorem dL_law_1301 : decode cL_law 1301 = .ok (.invokevirtual 124, 3) := dq daL_law_64_29 11 rfl
theorem dL_law_1304 : decode cL_law 1304 = .ok (.pop, 1) := dq daL_law_64_29 12 rfl
theorem dL_law_1305 : decode cL_law 1305 = .ok (.aload_n 2, 1) := dq daL_law_64_29 13 rfl
theorem dL_law_1306 : decode cL_law 1306 = .ok (.aload_n 0, 1) := dq daL_law_64_29 14 rfl
theorem dL_law_1307 : decode cL_law 1307 = .ok (.iload_n 3, 1) := dq daL_law_64_29 15 rfl
theorem dL_law_1308 : decode cL_law 1308 = .ok (.iconst 1, 1) := dq daL_law_64_29 16 rfl
theorem dL_law_1309 : decode cL_law 1309 = .ok (.iadd, 1) := dq daL_law_64_29 17 rfl
theorem dL_law_1310 : decode cL_law 1310 = .ok (.iaload, 1) := dq daL_law_64_29 18 rfl
theorem dL_law_1311 : decode cL_law 1311 = .ok (.aload_n 0, 1) := dq daL_law_64_29 19 rfl
theorem dL_law_1312 : decode cL_law 1312 = .ok (.iload_n 3, 1) := dq daL_law_64_29 20 rfl
theorem dL_law_1313 : decode cL_law 1313 = .ok (.iconst 2, 1) := dq daL_law_64_29 21 rfl
theorem dL_law_1314 : decode cL_law 1314 = .ok (.iadd, 1) := dq daL_law_64_29 22 rfl
theorem dL_law_1315 : decode cL_law 1315 = .ok (.iaload, 1) := dq daL_law_64_29 23 rfl
theorem dL_law_1316 : decode cL_law 1316 = .ok (.aload_n 0, 1) := dq daL_law_64_29 24 rfl
theorem dL_law_1317 : decode cL_law 1317 = .ok (.iload_n 3, 1) := dq daL_law_64_29 25 rfl
theorem dL_law_1318 : decode cL_law 1318 = .ok (.iconst 3, 1) := dq daL_law_64_29 26 rfl
theorem dL_law_1319 : decode cL_law 1319 = .ok (.iadd, 1) := dq daL_law_64_29 27 rfl
theorem dL_law_1320 : decode cL_law 1320 = .ok (.iaload, 1) := dq daL_law_64_29 28 rfl
theorem dL_law_1321 : decode cL_law 1321 = .ok (.invokevirtual 127, 3) := dq daL_law_64_29 29 rfl
theorem dL_law_1324 : decode cL_law 1324 = .ok (.pop, 1) := dq daL_law_64_29 30 rfl
theorem dL_law_1325 : decode cL_law 1325 = .ok (.goto 405, 3) := dq daL_law_64_29 31 rfl
def dtL_law_64_30 : List (Nat × Jvm.ClassFile.Instr × Nat) := [(1328, .aload_n 1, 1), (1329, .aload_n 0, 1), (1330, .iload_n 3, 1), (1331, .iconst 1, 1), (1332, .iadd, 1), (1333, .iaload, 1), (1334, .aload_n 0, 1), (1335, .iload_n 3, 1), (1336, .iconst 2, 1), (1337, .iadd, 1), (1338, .iaload, 1), (1339, .invokevirtual 128, 3), (1342, .pop, 1), (1343, .aload_n 2, 1), (1344, .aload_n 0, 1), (1345, .iload_n 3, 1), (1346, .iconst 1, 1), (1347, .iadd, 1), (1348, .iaload, 1), (1349, .aload_n 0, 1), (1350, .iload_n 3, 1), (1351, .iconst 2, 1), (1352, .iadd, 1), (1353, .iaload, 1), (1354, .invokevirtual 131, 3), (1357, .pop, 1), (1358, .goto 372, 3), (1361, .aload_n 1, 1), (1362, .aload_n 0, 1), (1363, .iload_n 3, 1), (1364, .iconst 1, 1), (1365, .iadd, 1)]
theorem daL_law_64_30 : dtL_law_64_30.all (dqd cL_law) = true := by decide +kernel
theorem dL_law_1328 : decode cL_law 1328 = .ok (.aload_n 1, 1) := dq daL_law_64_30 0 rfl
theorem dL_law_1329 : decode cL_law 1329 = .ok (.aload_n 0, 1) := dq daL_law_64_30 1 rfl
theorem dL_law_1330 : decode cL_law 1330 = .ok (.iload_n 3, 1) := dq daL_law_64_30 2 rfl
theorem dL_law_1331 : decode cL_law 1331 = .ok (.iconst 1, 1) := dq daL_law_64_30 3 rfl
theorem dL_law_1332 : decode cL_law 1332 = .ok (.iadd, 1) := dq daL_law_64_30 4 rfl
theorem dL_law_1333 : decode cL_law 1333 = .ok (.iaload, 1) := dq daL_law_64_30 5 rfl
theorem dL_law_1334 : decode cL_law 1334 = .ok (.aload_n 0, 1) := dq daL_law_64_30 6 rfl
theorem dL_law_1335 : decode cL_law 1335 = .ok (.iload_n 3, 1) := dq daL_law_64_30 7 rfl
theorem dL_law_1336 : decode cL_law 1336 = .ok (.iconst 2, 1) := dq daL_law_64_30 8 rfl
theorem dL_law_1337 : decode cL_law 1337 = .ok (.iadd, 1) := dq daL_law_64_30 9 rfl
theorem dL_law_1338 : decode cL_law 1338 = .ok (.iaload, 1) := dq daL_law_64_30 10 rfl
theorem dL_law_1339 : decode cL_law 1339 = .ok (.invokevirtual 128, 3) := dq daL_law_64_30 11 rfl
theorem dL_law_1342 : decode cL_law 1342 = .ok (.pop, 1) := dq daL_law_64_30 12 rfl
theorem dL_law_1343 : decode cL_law 1343 = .ok (.aload_n 2, 1) := dq daL_law_64_30 13 rfl
theorem dL_law_1344 : decode cL_law 1344 = .ok (.aload_n 0, 1) := dq daL_law_64_30 14 rfl
theorem dL_law_1345 : decode cL_law 1345 = .ok (.iload_n 3, 1) := dq daL_law_64_30 15 rfl
theorem dL_law_1346 : decode cL_law 1346 = .ok (.iconst 1, 1) := dq daL_law_64_30 16 rfl
theorem dL_law_1347 : decode cL_law 1347 = .ok (.iadd, 1) := dq daL_law_64_30 17 rfl
theorem dL_law_1348 : decode cL_law 1348 = .ok (.iaload, 1) := dq daL_law_64_30 18 rfl
theorem dL_law_1349 : decode cL_law 1349 = .ok (.aload_n 0, 1) := dq daL_law_64_30 19 rfl
theorem dL_law_1350 : decode cL_law 1350 = .ok (.iload_n 3, 1) := dq daL_law_64_30 20 rfl
theorem dL_law_1351 : decode cL_law 1351 = .ok (.iconst 2, 1) := dq daL_law_64_30 21 rfl
theorem dL_law_1352 : decode cL_law 1352 = .ok (.iadd, 1) := dq daL_law_64_30 22 rfl
theorem dL_law_1353 : decode cL_law 1353 = .ok (.iaload, 1) := dq daL_law_64_30 23 rfl
theorem dL_law_1354 : decode cL_law 1354 = .ok (.invokevirtual 131, 3) := dq daL_law_64_30 24 rfl
theorem dL_law_1357 : decode cL_law 1357 = .ok (.pop, 1) := dq daL_law_64_30 25 rfl
theorem dL_law_1358 : decode cL_law 1358 = .ok (.goto 372, 3) := dq daL_law_64_30 26 rfl
theorem dL_law_1361 : decode cL_law 1361 = .ok (.aload_n 1, 1) := dq daL_law_64_30 27 rfl
theorem dL_law_1362 : decode cL_law 1362 = .ok (.aload_n 0, 1) := dq daL_law_64_30 28 rfl
theorem dL_law_1363 : decode cL_law 1363 = .ok (.iload_n 3, 1) := dq daL_law_64_30 29 rfl
theorem dL_law_1364 : decode cL_law 1364 = .ok (.iconst 1, 1) := dq daL_law_64_30 30 rfl
theorem dL_law_1365 : decode cL_law 1365 = .ok (.iadd, 1) := dq daL_law_64_30 31 rfl
def dtL_law_64_31 : List (Nat × Jvm.ClassFile.Instr × Nat) := [(1366, .iaload, 1), (1367, .aload_n 0, 1), (1368, .iload_n 3, 1), (1369, .iconst 2, 1), (1370, .iadd, 1), (1371, .iaload, 1), (1372, .aload_n 0, 1), (1373, .iload_n 3, 1), (1374, .iconst 3, 1), (1375, .iadd, 1), (1376, .iaload, 1), (1377, .invokevirtual 132, 3), (1380, .pop, 1), (1381, .aload_n 2, 1), (1382, .aload_n 0, 1), (1383, .iload_n 3, 1), (1384, .iconst 1, 1), (1385, .iadd, 1), (1386, .iaload, 1), (1387, .aload_n 0, 1), (1388, .iload_n 3, 1), (1389, .iconst 2, 1), (1390, .iadd, 1), (1391, .iaload, 1), (1392, .aload_n 0, 1), (1393, .iload_n 3, 1), (1394, .iconst 3, 1), (1395, .iadd, 1), (1396, .iaload, 1), (1397, .invokevirtual 135, 3), (1400, .pop, 1), (1401, .goto 329, 3)]
theorem daL_law_64_31 : dtL_law_64_31.all (dqd cL_law) = true := by decide +kernel
theorem dL_law_1366 : decode cL_law 1366 = .ok (.iaload, 1) := dq daL_law_64_31 0 rfl
theorem dL_law_1367 : decode cL_law 1367 = .ok (.aload_n 0, 1) := dq daL_law_64_31 1 rfl
theorem dL_law_1368 : decode cL_law 1368 = .ok (.iload_n 3, 1) := dq daL_law_64_31 2 rfl
theorem dL_law_1369 : decode cL_law 1369 = .ok (.iconst 2, 1) := dq daL_law_64_31 3 rfl
theorem dL_law_1370 : decode cL_law 1370 = .ok (.iadd, 1) := dq daL_law_64_31 4 rfl
theorem dL_law_1371 : decode cL_law 1371 = .ok (.iaload, 1) := dq daL_law_64_31 5 rfl
theorem dL_law_1372 : decode cL_law 1372 = .ok (.aload_n 0, 1) := dq daL_law_64_31 6 rfl
theorem dL_law_1373 : decode cL_law 1373 = .ok (.iload_n 3, 1) := dq daL_law_64_31 7 rfl
theorem dL_law_1374 : decode cL_law 1374 = .ok (.iconst 3, 1) := dq daL_law_64_31 8 rfl
theorem dL_law_1375 : decode cL_law 1375 = .ok (.iadd, 1) := dq daL_law_64_31 9 rfl
theorem dL_law_1376 : decode cL_law 1376 = .ok (.iaload, 1) := dq daL_law_64_31 10 rfl
theorem dL_law_1377 : decode cL_law 1377 = .ok (.invokevirtual 132, 3) := dq daL_law_64_31 11 rfl
theorem dL_law_1380 : decode cL_law 1380 = .ok (.pop, 1) := dq daL_law_64_31 12 rfl
theorem dL_law_1381 : decode cL_law 1381 = .ok (.aload_n 2, 1) := dq daL_law_64_31 13 rfl
theorem dL_law_1382 : decode cL_law 1382 = .ok (.aload_n 0, 1) := dq daL_law_64_31 14 rfl
theorem dL_law_1383 : decode cL_law 1383 = .ok (.iload_n 3, 1) := dq daL_law_64_31 15 rfl
theorem dL_law_1384 : decode cL_law 1384 = .ok (.iconst 1, 1) := dq daL_law_64_31 16 rfl
theorem dL_law_1385 : decode cL_law 1385 = .ok (.iadd, 1) := dq daL_law_64_31 17 rfl
theorem dL_law_1386 : decode cL_law 1386 = .ok (.iaload, 1) := dq daL_law_64_31 18 rfl
theorem dL_law_1387 : decode cL_law 1387 = .ok (.aload_n 0, 1) := dq daL_law_64_31 19 rfl
theorem dL_law_1388 : decode cL_law 1388 = .ok (.iload_n 3, 1) := dq daL_law_64_31 20 rfl
theorem dL_law_1389 : decode cL_law 1389 = .ok (.iconst 2, 1) := dq daL_law_64_31 21 rfl
theorem dL_law_1390 : decode cL_law 1390 = .ok (.iadd, 1) := dq daL_law_64_31 22 rfl
theorem dL_law_1391 : decode cL_law 1391 = .ok (.iaload, 1) := dq daL_law_64_31 23 rfl
theorem dL_law_1392 : decode cL_law 1392 = .ok (.aload_n 0, 1) := dq daL_law_64_31 24 rfl
theorem dL_law_1393 : decode cL_law 1393 = .ok (.iload_n 3, 1) := dq daL_law_64_31 25 rfl
theorem dL_law_1394 : decode cL_law 1394 = .ok (.iconst 3, 1) := dq daL_law_64_31 26 rfl
theorem dL_law_1395 : decode cL_law 1395 = .ok (.iadd, 1) := dq daL_law_64_31 27 rfl
theorem dL_law_1396 : decode cL_law 1396 = .ok (.iaload, 1) := dq daL_law_64_31 28 rfl
theorem dL_law_1397 : decode cL_law 1397 = .ok (.invokevirtual 135, 3) := dq daL_law_64_31 29 rfl
theorem dL_law_1400 : decode cL_law 1400 = .ok (.pop, 1) := dq daL_law_64_31 30 rfl
theorem dL_law_1401 : decode cL_law 1401 = .ok (.goto 329, 3) := dq daL_law_64_31 31 rfl
def dtL_law_64_32 : List (Nat × Jvm.ClassFile.Instr × Nat) := [(1404, .aload_n 1, 1), (1405, .aload_n 0, 1), (1406, .iload_n 3, 1), (1407, .iconst 1, 1), (1408, .iadd, 1), (1409, .iaload, 1), (1410, .aload_n 0, 1), (1411, .iload_n 3, 1), (1412, .iconst 2, 1), (1413, .iadd, 1), (1414, .iaload, 1), (1415, .aload_n 0, 1), (1416, .iload_n 3, 1), (1417, .iconst 3, 1), (1418, .iadd, 1), (1419, .iaload, 1), (1420, .invokevirtual 136, 3), (1423, .pop, 1), (1424, .aload_n 2, 1), (1425, .aload_n 0, 1), (1426, .iload_n 3, 1), (1427, .iconst 1, 1), (1428, .iadd, 1), (1429, .iaload, 1), (1430, .aload_n 0, 1), (1431, .iload_n 3, 1), (1432, .iconst 2, 1), (1433, .iadd, 1), (1434, .iaload, 1), (1435, .aload_n 0, 1), (1436, .iload_n 3, 1), (1437, .iconst 3, 1)]
theorem daL_law_64_32 : dtL_law_64_32.all (dqd cL_law) = true := by decide +kernel
theorem dL_law_1404 : decode cL_law 1404 = .ok (.aload_n 1, 1) := dq daL_law_64_32 0 rfl
theorem dL_law_1405 : decode cL_law 1405 = .ok (.aload_n 0, 1) := dq daL_law_64_32 1 rfl
theorem dL_law_1406 : decode cL_law 1406 = .ok (.iload_n 3, 1) := dq daL_law_64_32 2 rfl
theorem dL_law_1407 : decode cL_law 1407 = .ok (.iconst 1, 1) := dq daL_law_64_32 3 rfl
theorem dL_law_1408 : decode cL_law 1408 = .ok (.iadd, 1) := dq daL_law_64_32 4 rfl
theorem dL_law_1409 : decode cL_law 1409 = .ok (.iaload, 1) := dq daL_law_64_32 5 rfl
theorem dL_law_1410 : decode cL_law 1410 = .ok (.aload_n 0, 1) := dq daL_law_64_32 6 rfl
theorem dL_law_1411 : decode cL_law 1411 = .ok (.iload_n 3, 1) := dq daL_law_64_32 7 rfl
theorem dL_law_1412 : decode cL_law 1412 = .ok (.iconst 2, 1) := dq daL_law_64_32 8 rfl
theorem dL_law_1413 : decode cL_law 1413 = .ok (.iadd, 1) := dq daL_law_64_32 9 rfl
theorem dL_law_1414 : decode cL_law 1414 = .ok (.iaload, 1) := dq daL_law_64_32 10 rfl
theorem dL_law_1415 : decode cL_law 1415 = .ok (.aload_n 0, 1) := dq daL_law_64_32 11 rfl
theorem dL_law_1416 : decode cL_law 1416 = .ok (.iload_n 3, 1) := dq daL_law_64_32 12 rfl
theorem dL_law_1417 : decode cL_law 1417 = .ok (.iconst 3, 1) := dq daL_law_64_32 13 rfl
theorem dL_law_1418 : decode cL_law 1418 = .ok (.iadd, 1) := dq daL_law_64_32 14 rfl
theorem dL_law_1419 : decode cL_law 1419 = .ok (.iaload, 1) := dq daL_law_64_32 15 rfl
theorem dL_law_1420 : decode cL_law 1420 = .ok (.invokevirtual 136, 3) := dq daL_law_64_32 16 rfl
theorem dL_law_1423 : decode cL_law 1423 = .ok (.pop, 1) := dq daL_law_64_32 17 rfl
theorem dL_law_1424 : decode cL_law 1424 = .ok (.aload_n 2, 1) := dq daL_law_64_32 18 rfl
theorem dL_law_1425 : decode cL_law 1425 = .ok (.aload_n 0, 1) := dq daL_law_64_32 19 rfl
theorem dL_law_1426 : decode cL_law 1426 = .ok (.iload_n 3, 1) := dq daL_law_64_32 20 rfl
theorem dL_law_1427 : decode cL_law 1427 = .ok (.iconst 1, 1) := dq daL_law_64_32 21 rfl
theorem dL_law_1428 : decode cL_law 1428 = .ok (.iadd, 1) := dq daL_law_64_32 22 rfl
theorem dL_law_1429 : decode cL_law 1429 = .ok (.iaload, 1) := dq daL_law_64_32 23 rfl
theorem dL_law_1430 : decode cL_law 1430 = .ok (.aload_n 0, 1) := dq daL_law_64_32 24 rfl
theorem dL_law_1431 : decode cL_law 1431 = .ok (.iload_n 3, 1) := dq daL_law_64_32 25 rfl
theorem dL_law_1432 : decode cL_law 1432 = .ok (.iconst 2, 1) := dq daL_law_64_32 26 rfl
theorem dL_law_1433 : decode cL_law 1433 = .ok (.iadd, 1) := dq daL_law_64_32 27 rfl
theorem dL_law_1434 : decode cL_law 1434 = .ok (.iaload, 1) := dq daL_law_64_32 28 rfl
theorem dL_law_1435 : decode cL_law 1435 = .ok (.aload_n 0, 1) := dq daL_law_64_32 29 rfl
theorem dL_law_1436 : decode cL_law 1436 = .ok (.iload_n 3, 1) := dq daL_law_64_32 30 rfl
theorem dL_law_1437 : decode cL_law 1437 = .ok (.iconst 3, 1) := dq daL_law_64_32 31 rfl
def dtL_law_64_33 : List (Nat × Jvm.ClassFile.Instr × Nat) := [(1438, .iadd, 1), (1439, .iaload, 1), (1440, .invokevirtual 139, 3), (1443, .pop, 1), (1444, .goto 286, 3), (1447, .aload_n 1, 1), (1448, .aload_n 0, 1), (1449, .iload_n 3, 1), (1450, .iconst 1, 1), (1451, .iadd, 1), (1452, .iaload, 1), (1453, .aload_n 0, 1), (1454, .iload_n 3, 1), (1455, .iconst 2, 1), (1456, .iadd, 1), (1457, .iaload, 1), (1458, .invokevirtual 140, 3), (1461, .pop, 1), (1462, .aload_n 2, 1), (1463, .aload_n 0, 1), (1464, .iload_n 3, 1), (1465, .iconst 1, 1), (1466, .iadd, 1), (1467, .iaload, 1), (1468, .aload_n 0, 1), (1469, .iload_n 3, 1), (1470, .iconst 2, 1), (1471, .iadd, 1), (1472, .iaload, 1), (1473, .invokevirtual 143, 3), (1476, .pop, 1), (1477, .goto 253, 3)]
theorem daL_law_64_33 : dtL_law_64_33.all (dqd cL_law) = true := by decide +kernel
theorem dL_law_1438 : decode cL_law 1438 = .ok (.iadd, 1) := dq daL_law_64_33 0 rfl
theorem dL_law_1439 : decode cL_law 1439 = .ok (.iaload, 1) := dq daL_law_64_33 1 rfl
theorem dL_law_1440 : decode cL_law 1440 = .ok (.invokevirtual 139, 3) := dq daL_law_64_33 2 rfl
theorem dL_law_1443 : decode cL_law 1443 = .ok (.pop, 1) := dq daL_law_64_33 3 rfl
theorem dL_law_1444 : decode cL_law 1444 = .ok (.goto 286, 3) := dq daL_law_64_33 4 rfl
theorem dL_law_1447 : decode cL_law 1447 = .ok (.aload_n 1, 1) := dq daL_law_64_33 5 rfl
theorem dL_law_1448 : decode cL_law 1448 = .ok (.aload_n 0, 1) := dq daL_law_64_33 6 rfl
theorem dL_law_1449 : decode cL_law 1449 = .ok (.iload_n 3, 1) := dq daL_law_64_33 7 rfl
theorem dL_law_1450 : decode cL_law 1450 = .ok (.iconst 1, 1) := dq daL_law_64_33 8 rfl
theorem dL_law_1451 : decode cL_law 1451 = .ok (.iadd, 1) := dq daL_law_64_33 9 rfl
theorem dL_law_1452 : decode cL_law 1452 = .ok (.iaload, 1) := dq daL_law_64_33 10 rfl
theorem dL_law_1453 : decode cL_law 1453 = .ok (.aload_n 0, 1) := dq daL_law_64_33 11 rfl
theorem dL_law_1454 : decode cL_law 1454 = .ok (.iload_n 3, 1) := dq daL_law_64_33 12 rfl
theorem dL_law_1455 : decode cL_law 1455 = .ok (.iconst 2, 1) := dq daL_law_64_33 13 rfl
theorem dL_law_1456 : decode cL_law 1456 = .ok (.iadd, 1) := dq daL_law_64_33 14 rfl
theorem dL_law_1457 : decode cL_law 1457 = .ok (.iaload, 1) := dq daL_law_64_33 15 rfl
theorem dL_law_1458 : decode cL_law 1458 = .ok (.invokevirtual 140, 3) := dq daL_law_64_33 16 rfl
theorem dL_law_1461 : decode cL_law 1461 = .ok (.pop, 1) := dq daL_law_64_33 17 rfl
theorem dL_law_1462 : decode cL_law 1462 = .ok (.aload_n 2, 1) := dq daL_law_64_33 18 rfl
theorem dL_law_1463 : decode cL_law 1463 = .ok (.aload_n 0, 1) := dq daL_law_64_33 19 rfl
theorem dL_law_1464 : decode cL_law 1464 = .ok (.iload_n 3, 1) := dq daL_law_64_33 20 rfl
theorem dL_law_1465 : decode cL_law 1465 = .ok (.iconst 1, 1) := dq daL_law_64_33 21 rfl
theorem dL_law_1466 : decode cL_law 1466 = .ok (.iadd, 1) := dq daL_law_64_33 22 rfl
theorem dL_law_1467 : decode cL_law 1467 = .ok (.iaload, 1) := dq daL_law_64_33 23 rfl
theorem dL_law_1468 : decode cL_law 1468 = .ok (.aload_n 0, 1) := dq daL_law_64_33 24 rfl
theorem dL_law_1469 : decode cL_law 1469 = .ok (.iload_n 3, 1) := dq daL_law_64_33 25 rfl
theorem dL_law_1470 : decode cL_law 1470 = .ok (.iconst 2, 1) := dq daL_law_64_33 26 rfl
theorem dL_law_1471 : decode cL_law 1471 = .ok (.iadd, 1) := dq daL_law_64_33 27 rfl
theorem dL_law_1472 : decode cL_law 1472 = .ok (.iaload, 1) := dq daL_law_64_33 28 rfl
theorem dL_law_1473 : decode cL_law 1473 = .ok (.invokevirtual 143, 3) := dq daL_law_64_33 29 rfl
theorem dL_law_1476 : decode cL_law 1476 = .ok (.pop, 1) := dq daL_law_64_33 30 rfl
theorem dL_law_1477 : decode cL_law 1477 = .ok (.goto 253, 3) := dq daL_law_64_33 31 rfl
def dtL_law_64_34 : List (Nat × Jvm.ClassFile.Instr × Nat) := [(1480, .aload_n 1, 1), (1481, .aload_n 0, 1), (1482, .iload_n 3, 1), (1483, .iconst 1, 1), (1484, .iadd, 1), (1485, .iaload, 1), (1486, .aload_n 0, 1), (1487, .iload_n 3, 1), (1488, .iconst 2, 1), (1489, .iadd, 1), (1490, .iaload, 1), (1491, .aload_n 0, 1), (1492, .iload_n 3, 1), (1493, .iconst 3, 1), (1494, .iadd, 1), (1495, .iaload, 1), (1496, .aload_n 0, 1), (1497, .iload_n 3, 1), (1498, .iconst 4, 1), (1499, .iadd, 1), (1500, .iaload, 1), (1501, .aload_n 0, 1), (1502, .iload_n 3, 1), (1503, .iconst 5, 1), (1504, .iadd, 1), (1505, .iaload, 1), (1506, .invokevirtual 144, 3), (1509, .pop, 1), (1510, .aload_n 2, 1), (1511, .aload_n 0, 1), (1512, .iload_n 3, 1), (1513, .iconst 1, 1)]
theorem daL_law_64_34 : dtL_law_64_34.all (dqd cL_law) = true := by decide +kernel
theorem dL_law_1480 : decode cL_law 1480 = .ok (.aload_n 1, 1) := dq daL_law_64_34 0 rfl
theorem dL_law_1481 : decode cL_law 1481 = .ok (.aload_n 0, 1) := dq daL_law_64_34 1 rfl
theorem dL_law_1482 : decode cL_law 1482 = .ok (.iload_n 3, 1) := dq daL_law_64_34 2 rfl
theorem dL_law_1483 : decode cL_law 1483 = .ok (.iconst 1, 1) := dq daL_law_64_34 3 rfl
theorem dL_law_1484 : decode cL_law 1484 = .ok (.iadd, 1) := dq daL_law_64_34 4 rfl
theorem dL_law_1485 : decode cL_law 1485 = .ok (.iaload, 1) := dq daL_law_64_34 5 rfl
theorem dL_law_1486 : decode cL_law 1486 = .ok (.aload_n 0, 1) := dq daL_law_64_34 6 rfl
theorem dL_law_1487 : decode cL_law 1487 = .ok (.iload_n 3, 1) := dq daL_law_64_34 7 rfl
theorem dL_law_1488 : decode cL_law 1488 = .ok (.iconst 2, 1) := dq daL_law_64_34 8 rfl
theorem dL_law_1489 : decode cL_law 1489 = .ok (.iadd, 1) := dq daL_law_64_34 9 rfl
theorem dL_law_1490 : decode cL_law 1490 = .ok (.iaload, 1) := dq daL_law_64_34 10 rfl
theorem dL_law_1491 : decode cL_law 1491 = .ok (.aload_n 0, 1) := dq daL_law_64_34 11 rfl
theorem dL_law_1492 : decode cL_law 1492 = .ok (.iload_n 3, 1) := dq daL_law_64_34 12 rfl
theorem dL_law_1493 : decode cL_law 1493 = .ok (.iconst 3, 1) := dq daL_law_64_34 13 rfl
theorem dL_law_1494 : decode cL_law 1494 = .ok (.iadd, 1) := dq daL_law_64_34 14 rfl
theorem dL_law_1495 : decode cL_law 1495 = .ok (.iaload, 1) := dq daL_law_64_34 15 rfl
theorem dL_law_1496 : decode cL_law 1496 = .ok (.aload_n 0, 1) := dq daL_law_64_34 16 rfl
theorem dL_law_1497 : decode cL_law 1497 = .ok (.iload_n 3, 1) := dq daL_law_64_34 17 rfl
theorem dL_law_1498 : decode cL_law 1498 = .ok (.iconst 4, 1) := dq daL_law_64_34 18 rfl
theorem dL_law_1499 : decode cL_law 1499 = .ok (.iadd, 1) := dq daL_law_64_34 19 rfl
theorem dL_law_1500 : decode cL_law 1500 = .ok (.iaload, 1) := dq daL_law_64_34 20 rfl
theorem dL_law_1501 : decode cL_law 1501 = .ok (.aload_n 0, 1) := dq daL_law_64_34 21 rfl
theorem dL_law_1502 : decode cL_law 1502 = .ok (.iload_n 3, 1) := dq daL_law_64_34 22 rfl
theorem dL_law_1503 : decode cL_law 1503 = .ok (.iconst 5, 1) := dq daL_law_64_34 23 rfl
theorem dL_law_1504 : decode cL_law 1504 = .ok (.iadd, 1) := dq daL_law_64_34 24 rfl
theorem dL_law_1505 : decode cL_law 1505 = .ok (.iaload, 1) := dq daL_law_64_34 25 rfl
theorem dL_law_1506 : decode cL_law 1506 = .ok (.invokevirtual 144, 3) := dq daL_law_64_34 26 rfl
theorem dL_law_1509 : decode cL_law 1509 = .ok (.pop, 1) := dq daL_law_64_34 27 rfl
theorem dL_law_1510 : decode cL_law 1510 = .ok (.aload_n 2, 1) := dq daL_law_64_34 28 rfl
theorem dL_law_1511 : decode cL_law 1511 = .ok (.aload_n 0, 1) := dq daL_law_64_34 29 rfl
theorem dL_law_1512 : decode cL_law 1512 = .ok (.iload_n 3, 1) := dq daL_law_64_34 30 rfl
theorem dL_law_1513 : decode cL_law 1513 = .ok (.iconst 1, 1) := dq daL_law_64_34 31 rfl
def dtL_law_64_35 : List (Nat × Jvm.ClassFile.Instr × Nat) := [(1514, .iadd, 1), (1515, .iaload, 1), (1516, .aload_n 0, 1), (1517, .iload_n 3, 1), (1518, .iconst 2, 1), (1519, .iadd, 1), (1520, .iaload, 1), (1521, .aload_n 0, 1), (1522, .iload_n 3, 1), (1523, .iconst 3, 1), (1524, .iadd, 1), (1525, .iaload, 1), (1526, .aload_n 0, 1), (1527, .iload_n 3, 1), (1528, .iconst 4, 1), (1529, .iadd, 1), (1530, .iaload, 1), (1531, .aload_n 0, 1), (1532, .iload_n 3, 1), (1533, .iconst 5, 1), (1534, .iadd, 1), (1535, .iaload, 1), (1536, .invokevirtual 147, 3), (1539, .pop, 1), (1540, .goto 190, 3), (1543, .aload_n 1, 1), (1544, .aload_n 0, 1), (1545, .iload_n 3, 1), (1546, .iconst 1, 1), (1547, .iadd, 1), (1548, .iaload, 1), (1549, .aload_n 0, 1)]
theorem daL_law_64_35 : dtL_law_64_35.all (dqd cL_law) = true := by decide +kernel
theorem dL_law_1514 : decode cL_law 1514 = .ok (.iadd, 1) := dq daL_law_64_35 0 rfl
theorem dL_law_1515 : decode cL_law 1515 = .ok (.iaload, 1) := dq daL_law_64_35 1 rfl
theorem dL_law_1516 : decode cL_law 1516 = .ok (.aload_n 0, 1) := dq daL_law_64_35 2 rfl
theorem dL_law_1517 : decode cL_law 1517 = .ok (.iload_n 3, 1) := dq daL_law_64_35 3 rfl
theorem dL_law_1518 : decode cL_law 1518 = .ok (.iconst 2, 1) := dq daL_law_64_35 4 rfl
theorem dL_law_1519 : decode cL_law 1519 = .ok (.iadd, 1) := dq daL_law_64_35 5 rfl
theorem dL_law_1520 : decode cL_law 1520 = .ok (.iaload, 1) := dq daL_law_64_35 6 rfl
theorem dL_law_1521 : decode cL_law 1521 = .ok (.aload_n 0, 1) := dq daL_law_64_35 7 rfl
theorem dL_law_1522 : decode cL_law 1522 = .ok (.iload_n 3, 1) := dq daL_law_64_35 8 rfl
theorem dL_law_1523 : decode cL_law 1523 = .ok (.iconst 3, 1) := dq daL_law_64_35 9 rfl
theorem dL_law_1524 : decode cL_law 1524 = .ok (.iadd, 1) := dq daL_law_64_35 10 rfl
theorem dL_law_1525 : decode cL_law 1525 = .ok (.iaload, 1) := dq daL_law_64_35 11 rfl
theorem dL_law_1526 : decode cL_law 1526 = .ok (.aload_n 0, 1) := dq daL_law_64_35 12 rfl
theorem dL_law_1527 : decode cL_law 1527 = .ok (.iload_n 3, 1) := dq daL_law_64_35 13 rfl
theorem dL_law_1528 : decode cL_law 1528 = .ok (.iconst 4, 1) := dq daL_law_64_35 14 rfl
theorem dL_law_1529 : decode cL_law 1529 = .ok (.iadd, 1) := dq daL_law_64_35 15 rfl
theorem dL_law_1530 : decode cL_law 1530 = .ok (.iaload, 1) := dq daL_law_64_35 16 rfl
theorem dL_law_1531 : decode cL_law 1531 = .ok (.aload_n 0, 1) := dq daL_law_64_35 17 rfl
theorem dL_law_1532 : decode cL_law 1532 = .ok (.iload_n 3, 1) := dq daL_law_64_35 18 rfl
theorem dL_law_1533 : decode cL_law 1533 = .ok (.iconst 5, 1) := dq daL_law_64_35 19 rfl
theorem dL_law_1534 : decode cL_law 1534 = .ok (.iadd, 1) := dq daL_law_64_35 20 rfl
theorem dL_law_1535 : decode cL_law 1535 = .ok (.iaload, 1) := dq daL_law_64_35 21 rfl
theorem dL_law_1536 : decode cL_law 1536 = .ok (.invokevirtual 147, 3) := dq daL_law_64_35 22 rfl
theorem dL_law_1539 : decode cL_law 1539 = .ok (.pop, 1) := dq daL_law_64_35 23 rfl
theorem dL_law_1540 : decode cL_law 1540 = .ok (.goto 190, 3) := dq daL_law_64_35 24 rfl
theorem dL_law_1543 : decode cL_law 1543 = .ok (.aload_n 1, 1) := dq daL_law_64_35 25 rfl
theorem dL_law_1544 : decode cL_law 1544 = .ok (.aload_n 0, 1) := dq daL_law_64_35 26 rfl
theorem dL_law_1545 : decode cL_law 1545 = .ok (.iload_n 3, 1) := dq daL_law_64_35 27 rfl
theorem dL_law_1546 : decode cL_law 1546 = .ok (.iconst 1, 1) := dq daL_law_64_35 28 rfl
theorem dL_law_1547 : decode cL_law 1547 = .ok (.iadd, 1) := dq daL_law_64_35 29 rfl
theorem dL_law_1548 : decode cL_law 1548 = .ok (.iaload, 1) := dq daL_law_64_35 30 rfl
theorem dL_law_1549 : decode cL_law 1549 = .ok (.aload_n 0, 1) := dq daL_law_64_35 31 rfl
def dtL_law_64_36 : List (Nat × Jvm.ClassFile.Instr × Nat) := [(1550, .iload_n 3, 1), (1551, .iconst 2, 1), (1552, .iadd, 1), (1553, .iaload, 1), (1554, .aload_n 0, 1), (1555, .iload_n 3, 1), (1556, .iconst 3, 1), (1557, .iadd, 1), (1558, .iaload, 1), (1559, .aload_n 0, 1), (1560, .iload_n 3, 1), (1561, .iconst 4, 1), (1562, .iadd, 1), (1563, .iaload, 1), (1564, .aload_n 0, 1), (1565, .iload_n 3, 1), (1566, .iconst 5, 1), (1567, .iadd, 1), (1568, .iaload, 1), (1569, .aload_n 0, 1), (1570, .iload_n 3, 1), (1571, .bipush 6, 2), (1573, .iadd, 1), (1574, .iaload, 1), (1575, .invokevirtual 148, 3), (1578, .pop, 1), (1579, .aload_n 2, 1), (1580, .aload_n 0, 1), (1581, .iload_n 3, 1), (1582, .iconst 1, 1), (1583, .iadd, 1), (1584, .iaload, 1)]
theorem daL_law_64_36 : dtL_law_64_36.all (dqd cL_law) = true := by decide +kernel
theorem dL_law_1550 : decode cL_law 1550 = .ok (.iload_n 3, 1) := dq daL_law_64_36 0 rfl
theorem dL_law_1551 : decode cL_law 1551 = .ok (.iconst 2, 1) := dq daL_law_64_36 1 rfl
theorem dL_law_1552 : decode cL_law 1552 = .ok (.iadd, 1) := dq daL_law_64_36 2 rfl
theorem dL_law_1553 : decode cL_law 1553 = .ok (.iaload, 1) := dq daL_law_64_36 3 rfl
theorem dL_law_1554 : decode cL_law 1554 = .ok (.aload_n 0, 1) := dq daL_law_64_36 4 rfl
theorem dL_law_1555 : decode cL_law 1555 = .ok (.iload_n 3, 1) := dq daL_law_64_36 5 rfl
theorem dL_law_1556 : decode cL_law 1556 = .ok (.iconst 3, 1) := dq daL_law_64_36 6 rfl
theorem dL_law_1557 : decode cL_law 1557 = .ok (.iadd, 1) := dq daL_law_64_36 7 rfl
theorem dL_law_1558 : decode cL_law 1558 = .ok (.iaload, 1) := dq daL_law_64_36 8 rfl
theorem dL_law_1559 : decode cL_law 1559 = .ok (.aload_n 0, 1) := dq daL_law_64_36 9 rfl
theorem dL_law_1560 : decode cL_law 1560 = .ok (.iload_n 3, 1) := dq daL_law_64_36 10 rfl
theorem dL_law_1561 : decode cL_law 1561 = .ok (.iconst 4, 1) := dq daL_law_64_36 11 rfl
theorem dL_law_1562 : decode cL_law 1562 = .ok (.iadd, 1) := dq daL_law_64_36 12 rfl
theorem dL_law_1563 : decode cL_law 1563 = .ok (.iaload, 1) := dq daL_law_64_36 13 rfl
theorem dL_law_1564 : decode cL_law 1564 = .ok (.aload_n 0, 1) := dq daL_law_64_36 14 rfl
theorem dL_law_1565 : decode cL_law 1565 = .ok (.iload_n 3, 1) := dq daL_law_64_36 15 rfl
theorem dL_law_1566 : decode cL_law 1566 = .ok (.iconst 5, 1) := dq daL_law_64_36 16 rfl
theorem dL_law_1567 : decode cL_law 1567 = .ok (.iadd, 1) := dq daL_law_64_36 17 rfl
theorem dL_law_1568 : decode cL_law 1568 = .ok (.iaload, 1) := dq daL_law_64_36 18 rfl
theorem dL_law_1569 : decode cL_law 1569 = .ok (.aload_n 0, 1) := dq daL_law_64_36 19 rfl
theorem dL_law_1570 : decode cL_law 1570 = .ok (.iload_n 3, 1) := dq daL_law_64_36 20 rfl
theorem dL_law_1571 : decode cL_law 1571 = .ok (.bipush 6, 2) := dq daL_law_64_36 21 rfl
theorem dL_law_1573 : decode cL_law 1573 = .ok (.iadd, 1) := dq daL_law_64_36 22 rfl
theorem dL_law_1574 : decode cL_law 1574 = .ok (.iaload, 1) := dq daL_law_64_36 23 rfl
theorem dL_law_1575 : decode cL_law 1575 = .ok (.invokevirtual 148, 3) := dq daL_law_64_36 24 rfl
theorem dL_law_1578 : decode cL_law 1578 = .ok (.pop, 1) := dq daL_law_64_36 25 rfl
theorem dL_law_1579 : decode cL_law 1579 = .ok (.aload_n 2, 1) := dq daL_law_64_36 26 rfl
theorem dL_law_1580 : decode cL_law 1580 = .ok (.aload_n 0, 1) := dq daL_law_64_36 27 rfl
theorem dL_law_1581 : decode cL_law 1581 = .ok (.iload_n 3, 1) := dq daL_law_64_36 28 rfl
theorem dL_law_1582 : decode cL_law 1582 = .ok (.iconst 1, 1) := dq daL_law_64_36 29 rfl
theorem dL_law_1583 : decode cL_law 1583 = .ok (.iadd, 1) := dq daL_law_64_36 30 rfl
theorem dL_law_1584 : decode cL_law 1584 = .ok (.iaload, 1) := dq daL_law_64_36 31 rfl
def dtL_law_64_37 : List (Nat × Jvm.ClassFile.Instr × Nat) := [(1585, .aload_n 0, 1), (1586, .iload_n 3, 1), (1587, .iconst 2, 1), (1588, .iadd, 1), (1589, .iaload, 1), (1590, .aload_n 0, 1), (1591, .iload_n 3, 1), (1592, .iconst 3, 1), (1593, .iadd, 1), (1594, .iaload, 1), (1595, .aload_n 0, 1), (1596, .iload_n 3, 1), (1597, .iconst 4, 1), (1598, .iadd, 1), (1599, .iaload, 1), (1600, .aload_n 0, 1), (1601, .iload_n 3, 1), (1602, .iconst 5, 1), (1603, .iadd, 1), (1604, .iaload, 1), (1605, .aload_n 0, 1), (1606, .iload_n 3, 1), (1607, .bipush 6, 2), (1609, .iadd, 1), (1610, .iaload, 1), (1611, .invokevirtual 151, 3), (1614, .pop, 1), (1615, .goto 115, 3), (1618, .aload_n 1, 1), (1619, .aload_n 0, 1), (1620, .iload_n 3, 1), (1621, .iconst 1, 1)]
theorem daL_law_64_37 : dtL_law_64_37.all (dqd cL_law) = true := by decide +kernel
theorem dL_law_1585 : decode cL_law 1585 = .ok (.aload_n 0, 1) := dq daL_law_64_37 0 rfl
theorem dL_law_1586 : decode cL_law 1586 = .ok (.iload_n 3, 1) := dq daL_law_64_37 1 rfl
theorem dL_law_1587 : decode cL_law 1587 = .ok (.iconst 2, 1) := dq daL_law_64_37 2 rfl
theorem dL_law_1588 : decode cL_law 1588 = .ok (.iadd, 1) := dq daL_law_64_37 3 rfl
theorem dL_law_1589 : decode cL_law 1589 = .ok (.iaload, 1) := dq daL_law_64_37 4 rfl
theorem dL_law_1590 : decode cL_law 1590 = .ok (.aload_n 0, 1) := dq daL_law_64_37 5 rfl
theorem dL_law_1591 : decode cL_law 1591 = .ok (.iload_n 3, 1) := dq daL_law_64_37 6 rfl
theorem dL_law_1592 : decode cL_law 1592 = .ok (.iconst 3, 1) := dq daL_law_64_37 7 rfl
theorem dL_law_1593 : decode cL_law 1593 = .ok (.iadd, 1) := dq daL_law_64_37 8 rfl
theorem dL_law_1594 : decode cL_law 1594 = .ok (.iaload, 1) := dq daL_law_64_37 9 rfl
theorem dL_law_1595 : decode cL_law 1595 = .ok (.aload_n 0, 1) := dq daL_law_64_37 10 rfl
theorem dL_law_1596 : decode cL_law 1596 = .ok (.iload_n 3, 1) := dq daL_law_64_37 11 rfl
theorem dL_law_1597 : decode cL_law 1597 = .ok (.iconst 4, 1) := dq daL_law_64_37 12 rfl
theorem dL_law_1598 : decode cL_law 1598 = .ok (.iadd, 1) := dq daL_law_64_37 13 rfl
theorem dL_law_1599 : decode cL_law 1599 = .ok (.iaload, 1) := dq daL_law_64_37 14 rfl
theorem dL_law_1600 : decode cL_law 1600 = .ok (.aload_n 0, 1) := dq daL_law_64_37 15 rfl
theorem dL_law_1601 : decode cL_law 1601 = .ok (.iload_n 3, 1) := dq daL_law_64_37 16 rfl
theorem dL_law_1602 : decode cL_law 1602 = .ok (.iconst 5, 1) := dq daL_law_64_37 17 rfl
theorem dL_law_1603 : decode cL_law 1603 = .ok (.iadd, 1) := dq daL_law_64_37 18 rfl
theorem dL_law_1604 : decode cL_law 1604 = .ok (.iaload, 1) := dq daL_law_64_37 19 rfl
theorem dL_law_1605 : decode cL_law 1605 = .ok (.aload_n 0, 1) := dq daL_law_64_37 20 rfl
theorem dL_law_1606 : decode cL_law 1606 = .ok (.iload_n 3, 1) := dq daL_law_64_37 21 rfl
theorem dL_law_1607 : decode cL_law 1607 = .ok (.bipush 6, 2) := dq daL_law_64_37 22 rfl
theorem dL_law_1609 : decode cL_law 1609 = .ok (.iadd, 1) := dq daL_law_64_37 23 rfl
theorem dL_law_1610 : decode cL_law 1610 = .ok (.iaload, 1) := dq daL_law_64_37 24 rfl
theorem dL_law_1611 : decode cL_law 1611 = .ok (.invokevirtual 151, 3) := dq daL_law_64_37 25 rfl
theorem dL_law_1614 : decode cL_law 1614 = .ok (.pop, 1) := dq daL_law_64_37 26 rfl
theorem dL_law_1615 : decode cL_law 1615 = .ok (.goto 115, 3) := dq daL_law_64_37 27 rfl
theorem dL_law_1618 : decode cL_law 1618 = .ok (.aload_n 1, 1) := dq daL_law_64_37 28 rfl
theorem dL_law_1619 : decode cL_law 1619 = .ok (.aload_n 0, 1) := dq daL_law_64_37 29 rfl
theorem dL_law_1620 : decode cL_law 1620 = .ok (.iload_n 3, 1) := dq daL_law_64_37 30 rfl
theorem dL_law_1621 : decode cL_law 1621 = .ok (.iconst 1, 1) := dq daL_law_64_37 31 rfl
def dtL_law_64_38 : List (Nat × Jvm.ClassFile.Instr × Nat) := [(1622, .iadd, 1), (1623, .iaload, 1), (1624, .aload_n 0, 1), (1625, .iload_n 3, 1), (1626, .iconst 2, 1), (1627, .iadd, 1), (1628, .iaload, 1), (1629, .aload_n 0, 1), (1630, .iload_n 3, 1), (1631, .iconst 3, 1), (1632, .iadd, 1), (1633, .iaload, 1), (1634, .invokevirtual 152, 3), (1637, .pop, 1), (1638, .aload_n 2, 1), (1639, .aload_n 0, 1), (1640, .iload_n 3, 1), (1641, .iconst 1, 1), (1642, .iadd, 1), (1643, .iaload, 1), (1644, .aload_n 0, 1), (1645, .iload_n 3, 1), (1646, .iconst 2, 1), (1647, .iadd, 1), (1648, .iaload, 1), (1649, .aload_n 0, 1), (1650, .iload_n 3, 1), (1651, .iconst 3, 1), (1652, .iadd, 1), (1653, .iaload, 1), (1654, .invokevirtual 155, 3), (1657, .pop, 1)]
theorem daL_law_64_38 : dtL_law_64_38.all (dqd cL_law) = true := by decide +kernel
theorem dL_law_1622 : decode cL_law 1622 = .ok (.iadd, 1) := dq daL_law_64_38 0 rfl
theorem dL_law_1623 : decode cL_law 1623 = .ok (.iaload, 1) := dq daL_law_64_38 1 rfl
theorem dL_law_1624 : decode cL_law 1624 = .ok (.aload_n 0, 1) := dq daL_law_64_38 2 rfl
theorem dL_law_1625 : decode cL_law 1625 = .ok (.iload_n 3, 1) := dq daL_law_64_38 3 rfl
theorem dL_law_1626 : decode cL_law 1626 = .ok (.iconst 2, 1) := dq daL_law_64_38 4 rfl
theorem dL_law_1627 : decode cL_law 1627 = .ok (.iadd, 1) := dq daL_law_64_38 5 rfl
theorem dL_law_1628 : decode cL_law 1628 = .ok (.iaload, 1) := dq daL_law_64_38 6 rfl
theorem dL_law_1629 : decode cL_law 1629 = .ok (.aload_n 0, 1) := dq daL_law_64_38 7 rfl
theorem dL_law_1630 : decode cL_law 1630 = .ok (.iload_n 3, 1) := dq daL_law_64_38 8 rfl
theorem dL_law_1631 : decode cL_law 1631 = .ok (.iconst 3, 1) := dq daL_law_64_38 9 rfl
theorem dL_law_1632 : decode cL_law 1632 = .ok (.iadd, 1) := dq daL_law_64_38 10 rfl
theorem dL_law_1633 : decode cL_law 1633 = .ok (.iaload, 1) := dq daL_law_64_38 11 rfl
theorem dL_law_1634 : decode cL_law 1634 = .ok (.invokevirtual 152, 3) := dq daL_law_64_38 12 rfl
theorem dL_law_1637 : decode cL_law 1637 = .ok (.pop, 1) := dq daL_law_64_38 13 rfl
theorem dL_law_1638 : decode cL_law 1638 = .ok (.aload_n 2, 1) := dq daL_law_64_38 14 rfl
theorem dL_law_1639 : decode cL_law 1639 = .ok (.aload_n 0, 1) := dq daL_law_64_38 15 rfl
theorem dL_law_1640 : decode cL_law 1640 = .ok (.iload_n 3, 1) := dq daL_law_64_38 16 rfl
theorem dL_law_1641 : decode cL_law 1641 = .ok (.iconst 1, 1) := dq daL_law_64_38 17 rfl
theorem dL_law_1642 : decode cL_law 1642 = .ok (.iadd, 1) := dq daL_law_64_38 18 rfl
theorem dL_law_1643 : decode cL_law 1643 = .ok (.iaload, 1) := dq daL_law_64_38 19 rfl
theorem dL_law_1644 : decode cL_law 1644 = .ok (.aload_n 0, 1) := dq daL_law_64_38 20 rfl
theorem dL_law_1645 : decode cL_law 1645 = .ok (.iload_n 3, 1) := dq daL_law_64_38 21 rfl
theorem dL_law_1646 : decode cL_law 1646 = .ok (.iconst 2, 1) := dq daL_law_64_38 22 rfl
theorem dL_law_1647 : decode cL_law 1647 = .ok (.iadd, 1) := dq daL_law_64_38 23 rfl
theorem dL_law_1648 : decode cL_law 1648 = .ok (.iaload, 1) := dq daL_law_64_38 24 rfl
theorem dL_law_1649 : decode cL_law 1649 = .ok (.aload_n 0, 1) := dq daL_law_64_38 25 rfl
theorem dL_law_1650 : decode cL_law 1650 = .ok (.iload_n 3, 1) := dq daL_law_64_38 26 rfl
theorem dL_law_1651 : decode cL_law 1651 = .ok (.iconst 3, 1) := dq daL_law_64_38 27 rfl
theorem dL_law_1652 : decode cL_law 1652 = .ok (.iadd, 1) := dq daL_law_64_38 28 rfl
theorem dL_law_1653 : decode cL_law 1653 = .ok (.iaload, 1) := dq daL_law_64_38 29 rfl
theorem dL_law_1654 : decode cL_law 1654 = .ok (.invokevirtual 155, 3) := dq daL_law_64_38 30 rfl
theorem dL_law_1657 : decode cL_law 1657 = .ok (.pop, 1) := dq daL_law_64_38 31 rfl
def dtL_law_64_39 : List (Nat × Jvm.ClassFile.Instr × Nat) := [(1658, .goto 72, 3), (1661, .aload_n 1, 1), (1662, .aload_n 0, 1), (1663, .iload_n 3, 1), (1664, .iconst 1, 1), (1665, .iadd, 1), (1666, .iaload, 1), (1667, .invokevirtual 156, 3), (1670, .pop, 1), (1671, .aload_n 2, 1), (1672, .aload_n 0, 1), (1673, .iload_n 3, 1), (1674, .iconst 1, 1), (1675, .iadd, 1), (1676, .iaload, 1), (1677, .invokevirtual 159, 3), (1680, .pop, 1), (1681, .goto 49, 3), (1684, .aload_n 1, 1), (1685, .aload_n 0, 1), (1686, .iload_n 3, 1), (1687, .iconst 1, 1), (1688, .iadd, 1), (1689, .iaload, 1), (1690, .invokevirtual 160, 3), (1693, .pop, 1), (1694, .aload_n 2, 1), (1695, .aload_n 0, 1), (1696, .iload_n 3, 1), (1697, .iconst 1, 1), (1698, .iadd, 1), (1699, .iaload, 1)]
theorem daL_law_64_39 : dtL_law_64_39.all (dqd cL_law) = true := by decide +kernel
theorem dL_law_1658 : decode cL_law 1658 = .ok (.goto 72, 3) := dq daL_law_64_39 0 rfl
theorem dL_law_1661 : decode cL_law 1661 = .ok (.aload_n 1, 1) := dq daL_law_64_39 1 rfl
theorem dL_law_1662 : decode cL_law 1662 = .ok (.aload_n 0, 1) := dq daL_law_64_39 2 rfl
theorem dL_law_1663 : decode cL_law 1663 = .ok (.iload_n 3, 1) := dq daL_law_64_39 3 rfl
theorem dL_law_1664 : decode cL_law 1664 = .ok (.iconst 1, 1) := dq daL_law_64_39 4 rfl
theorem dL_law_1665 : decode cL_law 1665 = .ok (.iadd, 1) := dq daL_law_64_39 5 rfl
theorem dL_law_1666 : decode cL_law 1666 = .ok (.iaload, 1) := dq daL_law_64_39 6 rfl
theorem dL_law_1667 : decode cL_law 1667 = .ok (.invokevirtual 156, 3) := dq daL_law_64_39 7 rfl
theorem dL_law_1670 : decode cL_law 1670 = .ok (.pop, 1) := dq daL_law_64_39 8 rfl
theorem dL_law_1671 : decode cL_law 1671 = .ok (.aload_n 2, 1) := dq daL_law_64_39 9 rfl
theorem dL_law_1672 : decode cL_law 1672 = .ok (.aload_n 0, 1) := dq daL_law_64_39 10 rfl
theorem dL_law_1673 : decode cL_law 1673 = .ok (.iload_n 3, 1) := dq daL_law_64_39 11 rfl
theorem dL_law_1674 : decode cL_law 1674 = .ok (.iconst 1, 1) := dq daL_law_64_39 12 rfl
theorem dL_law_1675 : decode cL_law 1675 = .ok (.iadd, 1) := dq daL_law_64_39 13 rfl
theorem dL_law_1676 : decode cL_law 1676 = .ok (.iaload, 1) := dq daL_law_64_39 14 rfl
theorem dL_law_1677 : decode cL_law 1677 = .ok (.invokevirtual 159, 3) := dq daL_law_64_39 15 rfl
theorem dL_law_1680 : decode cL_law 1680 = .ok (.pop, 1) := dq daL_law_64_39 16 rfl
theorem dL_law_1681 : decode cL_law 1681 = .ok (.goto 49, 3) := dq daL_law_64_39 17 rfl
theorem dL_law_1684 : decode cL_law 1684 = .ok (.aload_n 1, 1) := dq daL_law_64_39 18 rfl
theorem dL_law_1685 : decode cL_law 1685 = .ok (.aload_n 0, 1) := dq daL_law_64_39 19 rfl
theorem dL_law_1686 : decode cL_law 1686 = .ok (.iload_n 3, 1) := dq daL_law_64_39 20 rfl
theorem dL_law_1687 : decode cL_law 1687 = .ok (.iconst 1, 1) := dq daL_law_64_39 21 rfl
theorem dL_law_1688 : decode cL_law 1688 = .ok (.iadd, 1) := dq daL_law_64_39 22 rfl
theorem dL_law_1689 : decode cL_law 1689 = .ok (.iaload, 1) := dq daL_law_64_39 23 rfl
theorem dL_law_1690 : decode cL_law 1690 = .ok (.invokevirtual 160, 3) := dq daL_law_64_39 24 rfl
theorem dL_law_1693 : decode cL_law 1693 = .ok (.pop, 1) := dq daL_law_64_39 25 rfl
theorem dL_law_1694 : decode cL_law 1694 = .ok (.aload_n 2, 1) := dq daL_law_64_39 26 rfl
theorem dL_law_1695 : decode cL_law 1695 = .ok (.aload_n 0, 1) := dq daL_law_64_39 27 rfl
theorem dL_law_1696 : decode cL_law 1696 = .ok (.iload_n 3, 1) := dq daL_law_64_39 28 rfl
theorem dL_law_1697 : decode cL_law 1697 = .ok (.iconst 1, 1) := dq daL_law_64_39 29 rfl
theorem dL_law_1698 : decode cL_law 1698 = .ok (.iadd, 1) := dq daL_law_64_39 30 rfl
theorem dL_law_1699 : decode cL_law 1699 = .ok (.iaload, 1) := dq daL_law_64_39 31 rfl
def dtL_law_64_40 : List (Nat × Jvm.ClassFile.Instr × Nat) := [(1700, .invokevirtual 163, 3), (1703, .pop, 1), (1704, .goto 26, 3), (1707, .aload_n 1, 1), (1708, .aload_n 0, 1), (1709, .iload_n 3, 1), (1710, .iconst 1, 1), (1711, .iadd, 1), (1712, .iaload, 1), (1713, .invokevirtual 164, 3), (1716, .pop, 1), (1717, .aload_n 2, 1), (1718, .aload_n 0, 1), (1719, .iload_n 3, 1), (1720, .iconst 1, 1), (1721, .iadd, 1), (1722, .iaload, 1), (1723, .invokevirtual 167, 3), (1726, .pop, 1), (1727, .goto 3, 3), (18, .iload_n 3, 1), (19, .aload_n 0, 1), (20, .arraylength, 1), (21, .bipush 10, 2), (23, .isub, 1), (24, .if_icmp .gt 1712, 3), (1736, .iconst 1, 1), (1737, .ireturn, 1), (1730, .iinc 3 10, 3), (1733, .goto (-1715), 3), (27, .aload_n 0, 1), (28, .iload_n 3, 1)]
theorem daL_law_64_40 : dtL_law_64_40.all (dqd cL_law) = true := by decide +kernel
theorem dL_law_1700 : decode cL_law 1700 = .ok (.invokevirtual 163, 3) := dq daL_law_64_40 0 rfl
theorem dL_law_1703 : decode cL_law 1703 = .ok (.pop, 1) := dq daL_law_64_40 1 rfl
theorem dL_law_1704 : decode cL_law 1704 = .ok (.goto 26, 3) := dq daL_law_64_40 2 rfl
theorem dL_law_1707 : decode cL_law 1707 = .ok (.aload_n 1, 1) := dq daL_law_64_40 3 rfl
theorem dL_law_1708 : decode cL_law 1708 = .ok (.aload_n 0, 1) := dq daL_law_64_40 4 rfl
theorem dL_law_1709 : decode cL_law 1709 = .ok (.iload_n 3, 1) := dq daL_law_64_40 5 rfl
theorem dL_law_1710 : decode cL_law 1710 = .ok (.iconst 1, 1) := dq daL_law_64_40 6 rfl
theorem dL_law_1711 : decode cL_law 1711 = .ok (.iadd, 1) := dq daL_law_64_40 7 rfl
theorem dL_law_1712 : decode cL_law 1712 = .ok (.iaload, 1) := dq daL_law_64_40 8 rfl
theorem dL_law_1713 : decode cL_law 1713 = .ok (.invokevirtual 164, 3) := dq daL_law_64_40 9 rfl
theorem dL_law_1716 : decode cL_law 1716 = .ok (.pop, 1) := dq daL_law_64_40 10 rfl
theorem dL_law_1717 : decode cL_law 1717 = .ok (.aload_n 2, 1) := dq daL_law_64_40 11 rfl
theorem dL_law_1718 : decode cL_law 1718 = .ok (.aload_n 0, 1) := dq daL_law_64_40 12 rfl
theorem dL_law_1719 : decode cL_law 1719 = .ok (.iload_n 3, 1) := dq daL_law_64_40 13 rfl
theorem dL_law_1720 : decode cL_law 1720 = .ok (.iconst 1, 1) := dq daL_law_64_40 14 rfl
theorem dL_law_1721 : decode cL_law 1721 = .ok (.iadd, 1) := dq daL_law_64_40 15 rfl
theorem dL_law_1722 : decode cL_law 1722 = .ok (.iaload, 1) := dq daL_law_64_40 16 rfl
theorem dL_law_1723 : decode cL_law 1723 = .ok (.invokevirtual 167, 3) := dq daL_law_64_40 17 rfl
theorem dL_law_1726 : decode cL_law 1726 = .ok (.pop, 1) := dq daL_law_64_40 18 rfl
theorem dL_law_1727 : decode cL_law 1727 = .ok (.goto 3, 3) := dq daL_law_64_40 19 rfl
theorem dL_law_18 : decode cL_law 18 = .ok (.iload_n 3, 1) := dq daL_law_64_40 20 rfl
theorem dL_law_19 : decode cL_law 19 = .ok (.aload_n 0, 1) := dq daL_law_64_40 21 rfl
theorem dL_law_20 : decode cL_law 20 = .ok (.arraylength, 1) := dq daL_law_64_40 22 rfl
theorem dL_law_21 : decode cL_law 21 = .ok (.bipush 10, 2) := dq daL_law_64_40 23 rfl
theorem dL_law_23 : decode cL_law 23 = .ok (.isub, 1) := dq daL_law_64_40 24 rfl
theorem dL_law_24 : decode cL_law 24 = .ok (.if_icmp .gt 1712, 3) := dq daL_law_64_40 25 rfl
theorem dL_law_1736 : decode cL_law 1736 = .ok (.iconst 1, 1) := dq daL_law_64_40 26 rfl
theorem dL_law_1737 : decode cL_law 1737 = .ok (.ireturn, 1) := dq daL_law_64_40 27 rfl
theorem dL_law_1730 : decode cL_law 1730 = .ok (.iinc 3 10, 3) := dq daL_law_64_40 28 rfl
theorem dL_law_1733 : decode cL_law 1733 = .ok (.goto (-1715), 3) := dq daL_law_64_40 29 rfl
theorem dL_law_27 : decode cL_law 27 = .ok (.aload_n 0, 1) := dq daL_law_64_40 30 rfl
theorem dL_law_28 : decode cL_law 28 = .ok (.iload_n 3, 1) := dq daL_law_64_40 31 rfl
def dtL_law_64_41 : List (Nat × Jvm.ClassFile.Instr × Nat) := [(29, .iaload, 1), (30, .bipush 63, 2), (32, .iand, 1), (33, .tableswitch 1697 0 35 #[159, 202, 265, 328, 351, 374, 437, 460, 473, 506, 529, 562, 595, 628, 661, 694, 727, 750, 773, 848, 947, 980, 1013, 1088, 1199, 1252, 1295, 1328, 1371, 1414, 1447, 1510, 1585, 1628, 1651, 1674], 159)]
theorem daL_law_64_41 : dtL_law_64_41.all (dqd cL_law) = true := by decide +kernel
theorem dL_law_29 : decode cL_law 29 = .ok (.iaload, 1) := dq daL_law_64_41 0 rfl
theorem dL_law_30 : decode cL_law 30 = .ok (.bipush 63, 2) := dq daL_law_64_41 1 rfl
theorem dL_law_32 : decode cL_law 32 = .ok (.iand, 1) := dq daL_law_64_41 2 rfl
theorem dL_law_33 : decode cL_law 33 = .ok (.tableswitch 1697 0 35 #[159, 202, 265, 328, 351, 374, 437, 460, 473, 506, 529, 562, 595, 628, 661, 694, 727, 750, 773, 848, 947, 980, 1013, 1088, 1199, 1252, 1295, 1328, 1371, 1414, 1447, 1510, 1585, 1628, 1651, 1674], 159) := dq daL_law_64_41 3 rfl
set_option maxHeartbeats 4000000 in
set_option maxRecDepth 100000 in
theorem law_c0 {p : Program} {l : Launch} {e : Env} {s : State} {m : MethodId} {below : List Frame} {meth : Method} {c : Code} {b L : Nat} {xs : Nat → Int32} {dC : Nat → ClassId} {dI : Nat → Nat → Nat} {kA : Nat → ClassId} {aS vS : Nat} {oS : Option Nat} {x0 n0 : Nat} (C0 : lw_At p s m meth c b L xs) (hL : L ≤ 5120) (hK : zK dC dI kA s) (hZ : zStr aS vS oS (fun q : Nat => s.heap.size ≤ q) s s.heap) {i : Int32} (hi : 0 ≤ i.toInt ∧ i.toInt + 10 ≤ L) {cells slots : Nat} (hc : cells + 40 ≤ 600000) (hs : slots + 2000 ≤ 7302249) (kk : ∀ (wx wm : va_W) (H : Heap) (locs : List Loc) (ls : Array Slot), LInv kA x0 n0 wx wm → va_P (dC, dI) vwCl (wx ++ wm) H → va_D (fun q : Nat => s.heap.size ≤ q) (wx ++ wm) → va_S (fun q : Nat => s.heap.size ≤ q) s.heap H locs → lv_has ls 4 [(3, .int i), (2, .ref n0), (1, .ref x0), (0, .ref b)] → W p l e room_1 s m #[Value.ref b] below meth c H locs (cells + 40) (slots + 2000) (lw_Z below #[Value.ref b] s) (F0 m 1730 ls [])) (wx wm : va_W) (H : Heap) (locs : List Loc) (ls : Array Slot) (hI : LInv kA x0 n0 wx wm) (hP : va_P (dC, dI) vwCl (wx ++ wm) H) (hD : va_D (fun q : Nat => s.heap.size ≤ q) (wx ++ wm)) (hS : va_S (fun q : Nat => s.heap.size ≤ q) s.heap H locs) (hl : lv_has ls 4 [(3, .int i), (2, .ref n0), (1, .ref x0), (0, .ref b)]) : W p l e room_1 s m #[Value.ref b] below meth c H locs cells slots (lw_Z below #[Value.ref b] s) (F0 m 192 ls []) := by
  obtain ⟨hx, hb, hr, hml, hown0, hts0, hX, hbl, hlocks, hgv⟩ := C0
  have hown : s.vm.findClass RL = some m.cls := hown0
  have hts : ∀ w ∈ wsL_law, w.before #[Value.ref b] s = true := fun w h => hts0 w (wsL_law_in w h)
  have hA : ∀ q : Nat, s.heap.size ≤ q → (fun q : Nat => s.heap.size ≤ q) q := fun _ h => h
  have hbA : ¬ (fun q : Nat => s.heap.size ≤ q) b := Nat.not_le.mpr hbl
  obtain ⟨S_, LL, im, hX0, hM0⟩ := hI
  have hgd := MOK4_gd hM0
  have hxt := MOK4_xt hM0
  have hgr := MOK4_gr hM0
  have hgx := MOK4_gx hM0
  have hc1 : cells + 20 ≤ room_1.cells := by show cells + 20 ≤ 600000; omega
  have hs1 : slots + 1000 ≤ room_1.slots := by show slots + 1000 ≤ 7302249; omega
  have hc2 : cells + 20 + 20 ≤ room_1.cells := by show cells + 20 + 20 ≤ 600000; omega
  have hs2 : slots + 1000 + 1000 ≤ room_1.slots := by show slots + 1000 + 1000 ≤ 7302249; omega
  obtain ⟨a1, ea1⟩ : ∃ y : Int32, y = xs (i + 1).toNatClampNeg := ⟨_, rfl⟩
  obtain ⟨a2, ea2⟩ : ∃ y : Int32, y = xs (i + 2).toNatClampNeg := ⟨_, rfl⟩
  obtain ⟨a3, ea3⟩ : ∃ y : Int32, y = xs (i + 3).toNatClampNeg := ⟨_, rfl⟩
  refine lv_aload_n hx hb dL_law_192 rfl (lv_at hl 2 rfl) ?_
  refine lv_aload_n hx hb dL_law_193 rfl (lv_at hl 3 rfl) ?_
  refine lv_iload_n hx hb dL_law_194 rfl (lv_at hl 0 rfl) ?_
  refine lv_iconst (v := 1) hx hb dL_law_195 (by decide) ?_
  refine lv_iadd hx hb dL_law_196 ?_
  refine va_sld hx hb hX hbl hbA hS (z_sc hi hL (n := 1) (by decide) (by decide)) dL_law_197 ?_
  refine zi a1 ea1.symm ?_
  refine lv_aload_n hx hb dL_law_198 rfl (lv_at hl 3 rfl) ?_
  refine lv_iload_n hx hb dL_law_199 rfl (lv_at hl 0 rfl) ?_
  refine lv_iconst (v := 2) hx hb dL_law_200 (by decide) ?_
  refine lv_iadd hx hb dL_law_201 ?_
  refine va_sld hx hb hX hbl hbA hS (z_sc hi hL (n := 2) (by decide) (by decide)) dL_law_202 ?_
  refine zi a2 ea2.symm ?_
  refine lv_aload_n hx hb dL_law_203 rfl (lv_at hl 3 rfl) ?_
  refine lv_iload_n hx hb dL_law_204 rfl (lv_at hl 0 rfl) ?_
  refine lv_iconst (v := 3) hx hb dL_law_205 (by decide) ?_
  refine lv_iadd hx hb dL_law_206 ?_
  refine va_sld hx hb hX hbl hbA hS (z_sc hi hL (n := 3) (by decide) (by decide)) dL_law_207 ?_
  refine zi a3 ea3.symm ?_
  refine z_iL (wa := wx) (wb := wm) (va_runV (As := [.int a1, .int a2, .int a3]) (rest := []) ⟨hx, hb, hml, hown, hts⟩ (wX10_node l dC dI kA _ x0 a1 a2 a3 hX0 hgd hxt) (cwV 3 hts gL_law_X10_node rfl rfl rfl ⟨rfl, hdX10_node⟩ ⟨(Nat.le_of_ble_eq_true rfl), (Nat.le_of_ble_eq_true rfl)⟩) ⟨zPc.blind, XOK_rec hK hX0 hP, zPre hK (wl_P hP) (wl_D hD)⟩ rfl rfl hl.1 rfl (lv_room (Nat.le_of_ble_eq_true rfl)) dL_law_208 ⟨hc1, hs1⟩) hP hD hS hA (fun r1 w1 H locs hw1 hP hD hS => ?_)
  refine lv_pop hx hb dL_law_211 rfl ?_
  refine lv_aload_n hx hb dL_law_212 rfl (lv_at hl 1 rfl) ?_
  refine lv_aload_n hx hb dL_law_213 rfl (lv_at hl 3 rfl) ?_
  refine lv_iload_n hx hb dL_law_214 rfl (lv_at hl 0 rfl) ?_
  refine lv_iconst (v := 1) hx hb dL_law_215 (by decide) ?_
  refine lv_iadd hx hb dL_law_216 ?_
  refine va_sld hx hb hX hbl hbA hS (z_sc hi hL (n := 1) (by decide) (by decide)) dL_law_217 ?_
  refine zi a1 ea1.symm ?_
  refine lv_aload_n hx hb dL_law_218 rfl (lv_at hl 3 rfl) ?_
  refine lv_iload_n hx hb dL_law_219 rfl (lv_at hl 0 rfl) ?_
  refine lv_iconst (v := 2) hx hb dL_law_220 (by decide) ?_
  refine lv_iadd hx hb dL_law_221 ?_
  refine va_sld hx hb hX hbl hbA hS (z_sc hi hL (n := 2) (by decide) (by decide)) dL_law_222 ?_
  refine zi a2 ea2.symm ?_
  refine lv_aload_n hx hb dL_law_223 rfl (lv_at hl 3 rfl) ?_
  refine lv_iload_n hx hb dL_law_224 rfl (lv_at hl 0 rfl) ?_
  refine lv_iconst (v := 3) hx hb dL_law_225 (by decide) ?_
  refine lv_iadd hx hb dL_law_226 ?_
  refine va_sld hx hb hX hbl hbA hS (z_sc hi hL (n := 3) (by decide) (by decide)) dL_law_227 ?_
  refine zi a3 ea3.symm ?_
  refine z_iL (wa := wm) (wb := w1) (va_runV (As := [.int a1, .int a2, .int a3]) (rest := []) ⟨hx, hb, hml, hown, hts⟩ (wX11_node l dC dI kA _ n0 a1 a2 a3 hM0) (cwV 3 hts gL_law_X11_node rfl rfl rfl ⟨rfl, hdX11_node⟩ ⟨(Nat.le_of_ble_eq_true rfl), (Nat.le_of_ble_eq_true rfl)⟩) ⟨zPc.blind, MOK_rec hK hM0 (wp_P hP List.perm_append_comm), zPre hK (wl_P (wp_P hP List.perm_append_comm)) (wl_D (wp_D hD List.perm_append_comm))⟩ rfl rfl hl.1 rfl (lv_room (Nat.le_of_ble_eq_true rfl)) dL_law_228 ⟨hc2, hs2⟩) (wp_P hP List.perm_append_comm) (wp_D hD List.perm_append_comm) hS hA (fun r2 w2 H locs hw2 hP hD hS => ?_)
  have hP := wp_P hP (List.perm_append_comm)
  have hD := wp_D hD (List.perm_append_comm)
  refine lv_pop hx hb dL_law_231 rfl ?_
  refine lv_goto (tgt := 1730) hx hb dL_law_232 (by decide) ?_
  refine W.widen (k := cells + 40) (n := slots + 2000) (by omega) (by omega) ?_
  exact kk w1 w2 H locs ls ⟨_, _, _, hw1.2, hw2.2⟩ hP hD hS hl
set_option maxHeartbeats 4000000 in
set_option maxRecDepth 100000 in
theorem law_c1 {p : Program} {l : Launch} {e : Env} {s : State} {m : MethodId} {below : List Frame} {meth : Method} {c : Code} {b L : Nat} {xs : Nat → Int32} {dC : Nat → ClassId} {dI : Nat → Nat → Nat} {kA : Nat → ClassId} {aS vS : Nat} {oS : Option Nat} {x0 n0 : Nat} (C0 : lw_At p s m meth c b L xs) (hL : L ≤ 5120) (hK : zK dC dI kA s) (hZ : zStr aS vS oS (fun q : Nat => s.heap.size ≤ q) s s.heap) {i : Int32} (hi : 0 ≤ i.toInt ∧ i.toInt + 10 ≤ L) {cells slots : Nat} (hc : cells + 40 ≤ 600000) (hs : slots + 2000 ≤ 7302249) (kk : ∀ (wx wm : va_W) (H : Heap) (locs : List Loc) (ls : Array Slot), LInv kA x0 n0 wx wm → va_P (dC, dI) vwCl (wx ++ wm) H → va_D (fun q : Nat => s.heap.size ≤ q) (wx ++ wm) → va_S (fun q : Nat => s.heap.size ≤ q) s.heap H locs → lv_has ls 4 [(3, .int i), (2, .ref n0), (1, .ref x0), (0, .ref b)] → W p l e room_1 s m #[Value.ref b] below meth c H locs (cells + 40) (slots + 2000) (lw_Z below #[Value.ref b] s) (F0 m 1730 ls [])) (wx wm : va_W) (H : Heap) (locs : List Loc) (ls : Array Slot) (hI : LInv kA x0 n0 wx wm) (hP : va_P (dC, dI) vwCl (wx ++ wm) H) (hD : va_D (fun q : Nat => s.heap.size ≤ q) (wx ++ wm)) (hS : va_S (fun q : Nat => s.heap.size ≤ q) s.heap H locs) (hl : lv_has ls 4 [(3, .int i), (2, .ref n0), (1, .ref x0), (0, .ref b)]) : W p l e room_1 s m #[Value.ref b] below meth c H locs cells slots (lw_Z below #[Value.ref b] s) (F0 m 235 ls []) := by
  obtain ⟨hx, hb, hr, hml, hown0, hts0, hX, hbl, hlocks, hgv⟩ := C0
  have hown : s.vm.findClass RL = some m.cls := hown0
  have hts : ∀ w ∈ wsL_law, w.before #[Value.ref b] s = true := fun w h => hts0 w (wsL_law_in w h)
  have hA : ∀ q : Nat, s.heap.size ≤ q → (fun q : Nat => s.heap.size ≤ q) q := fun _ h => h
  have hbA : ¬ (fun q : Nat => s.heap.size ≤ q) b := Nat.not_le.mpr hbl
  obtain ⟨S_, LL, im, hX0, hM0⟩ := hI
  have hgd := MOK4_gd hM0
  have hxt := MOK4_xt hM0
  have hgr := MOK4_gr hM0
  have hgx := MOK4_gx hM0
  have hc1 : cells + 20 ≤ room_1.cells := by show cells + 20 ≤ 600000; omega
  have hs1 : slots + 1000 ≤ room_1.slots := by show slots + 1000 ≤ 7302249; omega
  have hc2 : cells + 20 + 20 ≤ room_1.cells := by show cells + 20 + 20 ≤ 600000; omega
  have hs2 : slots + 1000 + 1000 ≤ room_1.slots := by show slots + 1000 + 1000 ≤ 7302249; omega
  obtain ⟨a1, ea1⟩ : ∃ y : Int32, y = xs (i + 1).toNatClampNeg := ⟨_, rfl⟩
  obtain ⟨a2, ea2⟩ : ∃ y : Int32, y = xs (i + 2).toNatClampNeg := ⟨_, rfl⟩
  obtain ⟨a3, ea3⟩ : ∃ y : Int32, y = xs (i + 3).toNatClampNeg := ⟨_, rfl⟩
  obtain ⟨a4, ea4⟩ : ∃ y : Int32, y = xs (i + 4).toNatClampNeg := ⟨_, rfl⟩
  obtain ⟨a5, ea5⟩ : ∃ y : Int32, y = xs (i + 5).toNatClampNeg := ⟨_, rfl⟩
  refine lv_aload_n hx hb dL_law_235 rfl (lv_at hl 2 rfl) ?_
  refine lv_aload_n hx hb dL_law_236 rfl (lv_at hl 3 rfl) ?_
  refine lv_iload_n hx hb dL_law_237 rfl (lv_at hl 0 rfl) ?_
  refine lv_iconst (v := 1) hx hb dL_law_238 (by decide) ?_
  refine lv_iadd hx hb dL_law_239 ?_
  refine va_sld hx hb hX hbl hbA hS (z_sc hi hL (n := 1) (by decide) (by decide)) dL_law_240 ?_
  refine zi a1 ea1.symm ?_
  refine lv_aload_n hx hb dL_law_241 rfl (lv_at hl 3 rfl) ?_
  refine lv_iload_n hx hb dL_law_242 rfl (lv_at hl 0 rfl) ?_
  refine lv_iconst (v := 2) hx hb dL_law_243 (by decide) ?_
  refine lv_iadd hx hb dL_law_244 ?_
  refine va_sld hx hb hX hbl hbA hS (z_sc hi hL (n := 2) (by decide) (by decide)) dL_law_245 ?_
  refine zi a2 ea2.symm ?_
  refine lv_aload_n hx hb dL_law_246 rfl (lv_at hl 3 rfl) ?_
  refine lv_iload_n hx hb dL_law_247 rfl (lv_at hl 0 rfl) ?_
  refine lv_iconst (v := 3) hx hb dL_law_248 (by decide) ?_
  refine lv_iadd hx hb dL_law_249 ?_
  refine va_sld hx hb hX hbl hbA hS (z_sc hi hL (n := 3) (by decide) (by decide)) dL_law_250 ?_
  refine zi a3 ea3.symm ?_
  refine lv_aload_n hx hb dL_law_251 rfl (lv_at hl 3 rfl) ?_
  refine lv_iload_n hx hb dL_law_252 rfl (lv_at hl 0 rfl) ?_
  refine lv_iconst (v := 4) hx hb dL_law_253 (by decide) ?_
  refine lv_iadd hx hb dL_law_254 ?_
  refine va_sld hx hb hX hbl hbA hS (z_sc hi hL (n := 4) (by decide) (by decide)) dL_law_255 ?_
  refine zi a4 ea4.symm ?_
  refine lv_aload_n hx hb dL_law_256 rfl (lv_at hl 3 rfl) ?_
  refine lv_iload_n hx hb dL_law_257 rfl (lv_at hl 0 rfl) ?_
  refine lv_iconst (v := 5) hx hb dL_law_258 (by decide) ?_
  refine lv_iadd hx hb dL_law_259 ?_
  refine va_sld hx hb hX hbl hbA hS (z_sc hi hL (n := 5) (by decide) (by decide)) dL_law_260 ?_
  refine zi a5 ea5.symm ?_
  refine z_iL (wa := wx) (wb := wm) (va_runV (As := [.int a1, .int a2, .int a3, .int a4, .int a5]) (rest := []) ⟨hx, hb, hml, hown, hts⟩ (wX10_pass l dC dI kA _ x0 a1 a2 a3 a4 a5 hX0 hgd hxt) (cwV 5 hts gL_law_X10_pass rfl rfl rfl ⟨rfl, hdX10_pass⟩ ⟨(Nat.le_of_ble_eq_true rfl), (Nat.le_of_ble_eq_true rfl)⟩) ⟨zPc.blind, XOK_rec hK hX0 hP, zPre hK (wl_P hP) (wl_D hD)⟩ rfl rfl hl.1 rfl (lv_room (Nat.le_of_ble_eq_true rfl)) dL_law_261 ⟨hc1, hs1⟩) hP hD hS hA (fun r1 w1 H locs hw1 hP hD hS => ?_)
  refine lv_pop hx hb dL_law_264 rfl ?_
  refine lv_aload_n hx hb dL_law_265 rfl (lv_at hl 1 rfl) ?_
  refine lv_aload_n hx hb dL_law_266 rfl (lv_at hl 3 rfl) ?_
  refine lv_iload_n hx hb dL_law_267 rfl (lv_at hl 0 rfl) ?_
  refine lv_iconst (v := 1) hx hb dL_law_268 (by decide) ?_
  refine lv_iadd hx hb dL_law_269 ?_
  refine va_sld hx hb hX hbl hbA hS (z_sc hi hL (n := 1) (by decide) (by decide)) dL_law_270 ?_
  refine zi a1 ea1.symm ?_
  refine lv_aload_n hx hb dL_law_271 rfl (lv_at hl 3 rfl) ?_
  refine lv_iload_n hx hb dL_law_272 rfl (lv_at hl 0 rfl) ?_
  refine lv_iconst (v := 2) hx hb dL_law_273 (by decide) ?_
  refine lv_iadd hx hb dL_law_274 ?_
  refine va_sld hx hb hX hbl hbA hS (z_sc hi hL (n := 2) (by decide) (by decide)) dL_law_275 ?_
  refine zi a2 ea2.symm ?_
  refine lv_aload_n hx hb dL_law_276 rfl (lv_at hl 3 rfl) ?_
  refine lv_iload_n hx hb dL_law_277 rfl (lv_at hl 0 rfl) ?_
  refine lv_iconst (v := 3) hx hb dL_law_278 (by decide) ?_
  refine lv_iadd hx hb dL_law_279 ?_
  refine va_sld hx hb hX hbl hbA hS (z_sc hi hL (n := 3) (by decide) (by decide)) dL_law_280 ?_
  refine zi a3 ea3.symm ?_
  refine lv_aload_n hx hb dL_law_281 rfl (lv_at hl 3 rfl) ?_
  refine lv_iload_n hx hb dL_law_282 rfl (lv_at hl 0 rfl) ?_
  refine lv_iconst (v := 4) hx hb dL_law_283 (by decide) ?_
  refine lv_iadd hx hb dL_law_284 ?_
  refine va_sld hx hb hX hbl hbA hS (z_sc hi hL (n := 4) (by decide) (by decide)) dL_law_285 ?_
  refine zi a4 ea4.symm ?_
  refine lv_aload_n hx hb dL_law_286 rfl (lv_at hl 3 rfl) ?_
  refine lv_iload_n hx hb dL_law_287 rfl (lv_at hl 0 rfl) ?_
  refine lv_iconst (v := 5) hx hb dL_law_288 (by decide) ?_
  refine lv_iadd hx hb dL_law_289 ?_
  refine va_sld hx hb hX hbl hbA hS (z_sc hi hL (n := 5) (by decide) (by decide)) dL_law_290 ?_
  refine zi a5 ea5.symm ?_
  refine z_iL (wa := wm) (wb := w1) (va_runV (As := [.int a1, .int a2, .int a3, .int a4, .int a5]) (rest := []) ⟨hx, hb, hml, hown, hts⟩ (wX11_pass l dC dI kA _ n0 a1 a2 a3 a4 a5 hM0) (cwV 5 hts gL_law_X11_pass rfl rfl rfl ⟨rfl, hdX11_pass⟩ ⟨(Nat.le_of_ble_eq_true rfl), (Nat.le_of_ble_eq_true rfl)⟩) ⟨zPc.blind, MOK_rec hK hM0 (wp_P hP List.perm_append_comm), zPre hK (wl_P (wp_P hP List.perm_append_comm)) (wl_D (wp_D hD List.perm_append_comm))⟩ rfl rfl hl.1 rfl (lv_room (Nat.le_of_ble_eq_true rfl)) dL_law_291 ⟨hc2, hs2⟩) (wp_P hP List.perm_append_comm) (wp_D hD List.perm_append_comm) hS hA (fun r2 w2 H locs hw2 hP hD hS => ?_)
  have hP := wp_P hP (List.perm_append_comm)
  have hD := wp_D hD (List.perm_append_comm)
  refine lv_pop hx hb dL_law_294 rfl ?_
  refine lv_goto (tgt := 1730) hx hb dL_law_295 (by decide) ?_
  refine W.widen (k := cells + 40) (n := slots + 2000) (by omega) (by omega) ?_
  exact kk w1 w2 H locs ls ⟨_, _, _, hw1.2, hw2.2⟩ hP hD hS hl
set_option maxHeartbeats 4000000 in
set_option maxRecDepth 100000 in
theorem law_c2 {p : Program} {l : Launch} {e : Env} {s : State} {m : MethodId} {below : List Frame} {meth : Method} {c : Code} {b L : Nat} {xs : Nat → Int32} {dC : Nat → ClassId} {dI : Nat → Nat → Nat} {kA : Nat → ClassId} {aS vS : Nat} {oS : Option Nat} {x0 n0 : Nat} (C0 : lw_At p s m meth c b L xs) (hL : L ≤ 5120) (hK : zK dC dI kA s) (hZ : zStr aS vS oS (fun q : Nat => s.heap.size ≤ q) s s.heap) {i : Int32} (hi : 0 ≤ i.toInt ∧ i.toInt + 10 ≤ L) {cells slots : Nat} (hc : cells + 40 ≤ 600000) (hs : slots + 2000 ≤ 7302249) (kk : ∀ (wx wm : va_W) (H : Heap) (locs : List Loc) (ls : Array Slot), LInv kA x0 n0 wx wm → va_P (dC, dI) vwCl (wx ++ wm) H → va_D (fun q : Nat => s.heap.size ≤ q) (wx ++ wm) → va_S (fun q : Nat => s.heap.size ≤ q) s.heap H locs → lv_has ls 4 [(3, .int i), (2, .ref n0), (1, .ref x0), (0, .ref b)] → W p l e room_1 s m #[Value.ref b] below meth c H locs (cells + 40) (slots + 2000) (lw_Z below #[Value.ref b] s) (F0 m 1730 ls [])) (wx wm : va_W) (H : Heap) (locs : List Loc) (ls : Array Slot) (hI : LInv kA x0 n0 wx wm) (hP : va_P (dC, dI) vwCl (wx ++ wm) H) (hD : va_D (fun q : Nat => s.heap.size ≤ q) (wx ++ wm)) (hS : va_S (fun q : Nat => s.heap.size ≤ q) s.heap H locs) (hl : lv_has ls 4 [(3, .int i), (2, .ref n0), (1, .ref x0), (0, .ref b)]) : W p l e room_1 s m #[Value.ref b] below meth c H locs cells slots (lw_Z below #[Value.ref b] s) (F0 m 298 ls []) := by
  obtain ⟨hx, hb, hr, hml, hown0, hts0, hX, hbl, hlocks, hgv⟩ := C0
  have hown : s.vm.findClass RL = some m.cls := hown0
  have hts : ∀ w ∈ wsL_law, w.before #[Value.ref b] s = true := fun w h => hts0 w (wsL_law_in w h)
  have hA : ∀ q : Nat, s.heap.size ≤ q → (fun q : Nat => s.heap.size ≤ q) q := fun _ h => h
  have hbA : ¬ (fun q : Nat => s.heap.size ≤ q) b := Nat.not_le.mpr hbl
  obtain ⟨S_, LL, im, hX0, hM0⟩ := hI
  have hgd := MOK4_gd hM0
  have hxt := MOK4_xt hM0
  have hgr := MOK4_gr hM0
  have hgx := MOK4_gx hM0
  have hc1 : cells + 20 ≤ room_1.cells := by show cells + 20 ≤ 600000; omega
  have hs1 : slots + 1000 ≤ room_1.slots := by show slots + 1000 ≤ 7302249; omega
  have hc2 : cells + 20 + 20 ≤ room_1.cells := by show cells + 20 + 20 ≤ 600000; omega
  have hs2 : slots + 1000 + 1000 ≤ room_1.slots := by show slots + 1000 + 1000 ≤ 7302249; omega
  obtain ⟨a1, ea1⟩ : ∃ y : Int32, y = xs (i + 1).toNatClampNeg := ⟨_, rfl⟩
  obtain ⟨a2, ea2⟩ : ∃ y : Int32, y = xs (i + 2).toNatClampNeg := ⟨_, rfl⟩
  obtain ⟨a3, ea3⟩ : ∃ y : Int32, y = xs (i + 3).toNatClampNeg := ⟨_, rfl⟩
  obtain ⟨a4, ea4⟩ : ∃ y : Int32, y = xs (i + 4).toNatClampNeg := ⟨_, rfl⟩
  obtain ⟨a5, ea5⟩ : ∃ y : Int32, y = xs (i + 5).toNatClampNeg := ⟨_, rfl⟩
  refine lv_aload_n hx hb dL_law_298 rfl (lv_at hl 2 rfl) ?_
  refine lv_aload_n hx hb dL_law_299 rfl (lv_at hl 3 rfl) ?_
  refine lv_iload_n hx hb dL_law_300 rfl (lv_at hl 0 rfl) ?_
  refine lv_iconst (v := 1) hx hb dL_law_301 (by decide) ?_
  refine lv_iadd hx hb dL_law_302 ?_
  refine va_sld hx hb hX hbl hbA hS (z_sc hi hL (n := 1) (by decide) (by decide)) dL_law_303 ?_
  refine zi a1 ea1.symm ?_
  refine lv_aload_n hx hb dL_law_304 rfl (lv_at hl 3 rfl) ?_
  refine lv_iload_n hx hb dL_law_305 rfl (lv_at hl 0 rfl) ?_
  refine lv_iconst (v := 2) hx hb dL_law_306 (by decide) ?_
  refine lv_iadd hx hb dL_law_307 ?_
  refine va_sld hx hb hX hbl hbA hS (z_sc hi hL (n := 2) (by decide) (by decide)) dL_law_308 ?_
  refine zi a2 ea2.symm ?_
  refine lv_aload_n hx hb dL_law_309 rfl (lv_at hl 3 rfl) ?_
  refine lv_iload_n hx hb dL_law_310 rfl (lv_at hl 0 rfl) ?_
  refine lv_iconst (v := 3) hx hb dL_law_311 (by decide) ?_
  refine lv_iadd hx hb dL_law_312 ?_
  refine va_sld hx hb hX hbl hbA hS (z_sc hi hL (n := 3) (by decide) (by decide)) dL_law_313 ?_
  refine zi a3 ea3.symm ?_
  refine lv_aload_n hx hb dL_law_314 rfl (lv_at hl 3 rfl) ?_
  refine lv_iload_n hx hb dL_law_315 rfl (lv_at hl 0 rfl) ?_
  refine lv_iconst (v := 4) hx hb dL_law_316 (by decide) ?_
  refine lv_iadd hx hb dL_law_317 ?_
  refine va_sld hx hb hX hbl hbA hS (z_sc hi hL (n := 4) (by decide) (by decide)) dL_law_318 ?_
  refine zi a4 ea4.symm ?_
  refine lv_aload_n hx hb dL_law_319 rfl (lv_at hl 3 rfl) ?_
  refine lv_iload_n hx hb dL_law_320 rfl (lv_at hl 0 rfl) ?_
  refine lv_iconst (v := 5) hx hb dL_law_321 (by decide) ?_
  refine lv_iadd hx hb dL_law_322 ?_
  refine va_sld hx hb hX hbl hbA hS (z_sc hi hL (n := 5) (by decide) (by decide)) dL_law_323 ?_
  refine zi a5 ea5.symm ?_
  refine z_iL (wa := wx) (wb := wm) (va_runV (As := [.int a1, .int a2, .int a3, .int a4, .int a5]) (rest := []) ⟨hx, hb, hml, hown, hts⟩ (wX10_jar l dC dI kA _ x0 a1 a2 a3 a4 a5 hX0 hgd hxt) (cwV 5 hts gL_law_X10_jar rfl rfl rfl ⟨rfl, hdX10_jar⟩ ⟨(Nat.le_of_ble_eq_true rfl), (Nat.le_of_ble_eq_true rfl)⟩) ⟨zPc.blind, XOK_rec hK hX0 hP, zPre hK (wl_P hP) (wl_D hD)⟩ rfl rfl hl.1 rfl (lv_room (Nat.le_of_ble_eq_true rfl)) dL_law_324 ⟨hc1, hs1⟩) hP hD hS hA (fun r1 w1 H locs hw1 hP hD hS => ?_)
  refine lv_pop hx hb dL_law_327 rfl ?_
  refine lv_aload_n hx hb dL_law_328 rfl (lv_at hl 1 rfl) ?_
  refine lv_aload_n hx hb dL_law_329 rfl (lv_at hl 3 rfl) ?_
  refine lv_iload_n hx hb dL_law_330 rfl (lv_at hl 0 rfl) ?_
  refine lv_iconst (v := 1) hx hb dL_law_331 (by decide) ?_
  refine lv_iadd hx hb dL_law_332 ?_
  refine va_sld hx hb hX hbl hbA hS (z_sc hi hL (n := 1) (by decide) (by decide)) dL_law_333 ?_
  refine zi a1 ea1.symm ?_
  refine lv_aload_n hx hb dL_law_334 rfl (lv_at hl 3 rfl) ?_
  refine lv_iload_n hx hb dL_law_335 rfl (lv_at hl 0 rfl) ?_
  refine lv_iconst (v := 2) hx hb dL_law_336 (by decide) ?_
  refine lv_iadd hx hb dL_law_337 ?_
  refine va_sld hx hb hX hbl hbA hS (z_sc hi hL (n := 2) (by decide) (by decide)) dL_law_338 ?_
  refine zi a2 ea2.symm ?_
  refine lv_aload_n hx hb dL_law_339 rfl (lv_at hl 3 rfl) ?_
  refine lv_iload_n hx hb dL_law_340 rfl (lv_at hl 0 rfl) ?_
  refine lv_iconst (v := 3) hx hb dL_law_341 (by decide) ?_
  refine lv_iadd hx hb dL_law_342 ?_
  refine va_sld hx hb hX hbl hbA hS (z_sc hi hL (n := 3) (by decide) (by decide)) dL_law_343 ?_
  refine zi a3 ea3.symm ?_
  refine lv_aload_n hx hb dL_law_344 rfl (lv_at hl 3 rfl) ?_
  refine lv_iload_n hx hb dL_law_345 rfl (lv_at hl 0 rfl) ?_
  refine lv_iconst (v := 4) hx hb dL_law_346 (by decide) ?_
  refine lv_iadd hx hb dL_law_347 ?_
  refine va_sld hx hb hX hbl hbA hS (z_sc hi hL (n := 4) (by decide) (by decide)) dL_law_348 ?_
  refine zi a4 ea4.symm ?_
  refine lv_aload_n hx hb dL_law_349 rfl (lv_at hl 3 rfl) ?_
  refine lv_iload_n hx hb dL_law_350 rfl (lv_at hl 0 rfl) ?_
  refine lv_iconst (v := 5) hx hb dL_law_351 (by decide) ?_
  refine lv_iadd hx hb dL_law_352 ?_
  refine va_sld hx hb hX hbl hbA hS (z_sc hi hL (n := 5) (by decide) (by decide)) dL_law_353 ?_
  refine zi a5 ea5.symm ?_
  refine z_iL (wa := wm) (wb := w1) (va_runV (As := [.int a1, .int a2, .int a3, .int a4, .int a5]) (rest := []) ⟨hx, hb, hml, hown, hts⟩ (wX11_jar l dC dI kA _ n0 a1 a2 a3 a4 a5 hM0) (cwV 5 hts gL_law_X11_jar rfl rfl rfl ⟨rfl, hdX11_jar⟩ ⟨(Nat.le_of_ble_eq_true rfl), (Nat.le_of_ble_eq_true rfl)⟩) ⟨zPc.blind, MOK_rec hK hM0 (wp_P hP List.perm_append_comm), zPre hK (wl_P (wp_P hP List.perm_append_comm)) (wl_D (wp_D hD List.perm_append_comm))⟩ rfl rfl hl.1 rfl (lv_room (Nat.le_of_ble_eq_true rfl)) dL_law_354 ⟨hc2, hs2⟩) (wp_P hP List.perm_append_comm) (wp_D hD List.perm_append_comm) hS hA (fun r2 w2 H locs hw2 hP hD hS => ?_)
  have hP := wp_P hP (List.perm_append_comm)
  have hD := wp_D hD (List.perm_append_comm)
  refine lv_pop hx hb dL_law_357 rfl ?_
  refine lv_goto (tgt := 1730) hx hb dL_law_358 (by decide) ?_
  refine W.widen (k := cells + 40) (n := slots + 2000) (by omega) (by omega) ?_
  exact kk w1 w2 H locs ls ⟨_, _, _, hw1.2, hw2.2⟩ hP hD hS hl
set_option maxHeartbeats 4000000 in
set_option maxRecDepth 100000 in
theorem law_c3 {p : Program} {l : Launch} {e : Env} {s : State} {m : MethodId} {below : List Frame} {meth : Method} {c : Code} {b L : Nat} {xs : Nat → Int32} {dC : Nat → ClassId} {dI : Nat → Nat → Nat} {kA : Nat → ClassId} {aS vS : Nat} {oS : Option Nat} {x0 n0 : Nat} (C0 : lw_At p s m meth c b L xs) (hL : L ≤ 5120) (hK : zK dC dI kA s) (hZ : zStr aS vS oS (fun q : Nat => s.heap.size ≤ q) s s.heap) {i : Int32} (hi : 0 ≤ i.toInt ∧ i.toInt + 10 ≤ L) {cells slots : Nat} (hc : cells + 40 ≤ 600000) (hs : slots + 2000 ≤ 7302249) (kk : ∀ (wx wm : va_W) (H : Heap) (locs : List Loc) (ls : Array Slot), LInv kA x0 n0 wx wm → va_P (dC, dI) vwCl (wx ++ wm) H → va_D (fun q : Nat => s.heap.size ≤ q) (wx ++ wm) → va_S (fun q : Nat => s.heap.size ≤ q) s.heap H locs → lv_has ls 4 [(3, .int i), (2, .ref n0), (1, .ref x0), (0, .ref b)] → W p l e room_1 s m #[Value.ref b] below meth c H locs (cells + 40) (slots + 2000) (lw_Z below #[Value.ref b] s) (F0 m 1730 ls [])) (wx wm : va_W) (H : Heap) (locs : List Loc) (ls : Array Slot) (hI : LInv kA x0 n0 wx wm) (hP : va_P (dC, dI) vwCl (wx ++ wm) H) (hD : va_D (fun q : Nat => s.heap.size ≤ q) (wx ++ wm)) (hS : va_S (fun q : Nat => s.heap.size ≤ q) s.heap H locs) (hl : lv_has ls 4 [(3, .int i), (2, .ref n0), (1, .ref x0), (0, .ref b)]) : W p l e room_1 s m #[Value.ref b] below meth c H locs cells slots (lw_Z below #[Value.ref b] s) (F0 m 361 ls []) := by
  obtain ⟨hx, hb, hr, hml, hown0, hts0, hX, hbl, hlocks, hgv⟩ := C0
  have hown : s.vm.findClass RL = some m.cls := hown0
  have hts : ∀ w ∈ wsL_law, w.before #[Value.ref b] s = true := fun w h => hts0 w (wsL_law_in w h)
  have hA : ∀ q : Nat, s.heap.size ≤ q → (fun q : Nat => s.heap.size ≤ q) q := fun _ h => h
  have hbA : ¬ (fun q : Nat => s.heap.size ≤ q) b := Nat.not_le.mpr hbl
  obtain ⟨S_, LL, im, hX0, hM0⟩ := hI
  have hgd := MOK4_gd hM0
  have hxt := MOK4_xt hM0
  have hgr := MOK4_gr hM0
  have hgx := MOK4_gx hM0
  have hc1 : cells + 20 ≤ room_1.cells := by show cells + 20 ≤ 600000; omega
  have hs1 : slots + 1000 ≤ room_1.slots := by show slots + 1000 ≤ 7302249; omega
  have hc2 : cells + 20 + 20 ≤ room_1.cells := by show cells + 20 + 20 ≤ 600000; omega
  have hs2 : slots + 1000 + 1000 ≤ room_1.slots := by show slots + 1000 + 1000 ≤ 7302249; omega
  obtain ⟨a1, ea1⟩ : ∃ y : Int32, y = xs (i + 1).toNatClampNeg := ⟨_, rfl⟩
  refine lv_aload_n hx hb dL_law_361 rfl (lv_at hl 2 rfl) ?_
  refine lv_aload_n hx hb dL_law_362 rfl (lv_at hl 3 rfl) ?_
  refine lv_iload_n hx hb dL_law_363 rfl (lv_at hl 0 rfl) ?_
  refine lv_iconst (v := 1) hx hb dL_law_364 (by decide) ?_
  refine lv_iadd hx hb dL_law_365 ?_
  refine va_sld hx hb hX hbl hbA hS (z_sc hi hL (n := 1) (by decide) (by decide)) dL_law_366 ?_
  refine zi a1 ea1.symm ?_
  refine z_iL (wa := wx) (wb := wm) (va_runV (As := [.int a1]) (rest := []) ⟨hx, hb, hml, hown, hts⟩ (wX10_month l dC dI kA _ x0 a1 hX0 hgd hxt) (cwV 1 hts gL_law_X10_month rfl rfl rfl ⟨rfl, hdX10_month⟩ ⟨(Nat.le_of_ble_eq_true rfl), (Nat.le_of_ble_eq_true rfl)⟩) ⟨zPc.blind, XOK_rec hK hX0 hP, zPre hK (wl_P hP) (wl_D hD)⟩ rfl rfl hl.1 rfl (lv_room (Nat.le_of_ble_eq_true rfl)) dL_law_367 ⟨hc1, hs1⟩) hP hD hS hA (fun r1 w1 H locs hw1 hP hD hS => ?_)
  refine lv_pop hx hb dL_law_370 rfl ?_
  refine lv_aload_n hx hb dL_law_371 rfl (lv_at hl 1 rfl) ?_
  refine lv_aload_n hx hb dL_law_372 rfl (lv_at hl 3 rfl) ?_
  refine lv_iload_n hx hb dL_law_373 rfl (lv_at hl 0 rfl) ?_
  refine lv_iconst (v := 1) hx hb dL_law_374 (by decide) ?_
  refine lv_iadd hx hb dL_law_375 ?_
  refine va_sld hx hb hX hbl hbA hS (z_sc hi hL (n := 1) (by decide) (by decide)) dL_law_376 ?_
  refine zi a1 ea1.symm ?_
  refine z_iL (wa := wm) (wb := w1) (va_runV (As := [.int a1]) (rest := []) ⟨hx, hb, hml, hown, hts⟩ (wX11_month l dC dI kA _ n0 a1 hM0) (cwV 1 hts gL_law_X11_month rfl rfl rfl ⟨rfl, hdX11_month⟩ ⟨(Nat.le_of_ble_eq_true rfl), (Nat.le_of_ble_eq_true rfl)⟩) ⟨zPc.blind, MOK_rec hK hM0 (wp_P hP List.perm_append_comm), zPre hK (wl_P (wp_P hP List.perm_append_comm)) (wl_D (wp_D hD List.perm_append_comm))⟩ rfl rfl hl.1 rfl (lv_room (Nat.le_of_ble_eq_true rfl)) dL_law_377 ⟨hc2, hs2⟩) (wp_P hP List.perm_append_comm) (wp_D hD List.perm_append_comm) hS hA (fun r2 w2 H locs hw2 hP hD hS => ?_)
  have hP := wp_P hP (List.perm_append_comm)
  have hD := wp_D hD (List.perm_append_comm)
  refine lv_pop hx hb dL_law_380 rfl ?_
  refine lv_goto (tgt := 1730) hx hb dL_law_381 (by decide) ?_
  refine W.widen (k := cells + 40) (n := slots + 2000) (by omega) (by omega) ?_
  exact kk w1 w2 H locs ls ⟨_, _, _, hw1.2, hw2.2⟩ hP hD hS hl
set_option maxHeartbeats 4000000 in
set_option maxRecDepth 100000 in
theorem law_c4 {p : Program} {l : Launch} {e : Env} {s : State} {m : MethodId} {below : List Frame} {meth : Method} {c : Code} {b L : Nat} {xs : Nat → Int32} {dC : Nat → ClassId} {dI : Nat → Nat → Nat} {kA : Nat → ClassId} {aS vS : Nat} {oS : Option Nat} {x0 n0 : Nat} (C0 : lw_At p s m meth c b L xs) (hL : L ≤ 5120) (hK : zK dC dI kA s) (hZ : zStr aS vS oS (fun q : Nat => s.heap.size ≤ q) s s.heap) {i : Int32} (hi : 0 ≤ i.toInt ∧ i.toInt + 10 ≤ L) {cells slots : Nat} (hc : cells + 40 ≤ 600000) (hs : slots + 2000 ≤ 7302249) (kk : ∀ (wx wm : va_W) (H : Heap) (locs : List Loc) (ls : Array Slot), LInv kA x0 n0 wx wm → va_P (dC, dI) vwCl (wx ++ wm) H → va_D (fun q : Nat => s.heap.size ≤ q) (wx ++ wm) → va_S (fun q : Nat => s.heap.size ≤ q) s.heap H locs → lv_has ls 4 [(3, .int i), (2, .ref n0), (1, .ref x0), (0, .ref b)] → W p l e room_1 s m #[Value.ref b] below meth c H locs (cells + 40) (slots + 2000) (lw_Z below #[Value.ref b] s) (F0 m 1730 ls [])) (wx wm : va_W) (H : Heap) (locs : List Loc) (ls : Array Slot) (hI : LInv kA x0 n0 wx wm) (hP : va_P (dC, dI) vwCl (wx ++ wm) H) (hD : va_D (fun q : Nat => s.heap.size ≤ q) (wx ++ wm)) (hS : va_S (fun q : Nat => s.heap.size ≤ q) s.heap H locs) (hl : lv_has ls 4 [(3, .int i), (2, .ref n0), (1, .ref x0), (0, .ref b)]) : W p l e room_1 s m #[Value.ref b] below meth c H locs cells slots (lw_Z below #[Value.ref b] s) (F0 m 384 ls []) := by
  obtain ⟨hx, hb, hr, hml, hown0, hts0, hX, hbl, hlocks, hgv⟩ := C0
  have hown : s.vm.findClass RL = some m.cls := hown0
  have hts : ∀ w ∈ wsL_law, w.before #[Value.ref b] s = true := fun w h => hts0 w (wsL_law_in w h)
  have hA : ∀ q : Nat, s.heap.size ≤ q → (fun q : Nat => s.heap.size ≤ q) q := fun _ h => h
  have hbA : ¬ (fun q : Nat => s.heap.size ≤ q) b := Nat.not_le.mpr hbl
  obtain ⟨S_, LL, im, hX0, hM0⟩ := hI
  have hgd := MOK4_gd hM0
  have hxt := MOK4_xt hM0
  have hgr := MOK4_gr hM0
  have hgx := MOK4_gx hM0
  have hc1 : cells + 20 ≤ room_1.cells := by show cells + 20 ≤ 600000; omega
  have hs1 : slots + 1000 ≤ room_1.slots := by show slots + 1000 ≤ 7302249; omega
  have hc2 : cells + 20 + 20 ≤ room_1.cells := by show cells + 20 + 20 ≤ 600000; omega
  have hs2 : slots + 1000 + 1000 ≤ room_1.slots := by show slots + 1000 + 1000 ≤ 7302249; omega
  obtain ⟨a1, ea1⟩ : ∃ y : Int32, y = xs (i + 1).toNatClampNeg := ⟨_, rfl⟩
  refine lv_aload_n hx hb dL_law_384 rfl (lv_at hl 2 rfl) ?_
  refine lv_aload_n hx hb dL_law_385 rfl (lv_at hl 3 rfl) ?_
  refine lv_iload_n hx hb dL_law_386 rfl (lv_at hl 0 rfl) ?_
  refine lv_iconst (v := 1) hx hb dL_law_387 (by decide) ?_
  refine lv_iadd hx hb dL_law_388 ?_
  refine va_sld hx hb hX hbl hbA hS (z_sc hi hL (n := 1) (by decide) (by decide)) dL_law_389 ?_
  refine zi a1 ea1.symm ?_
  refine z_iL (wa := wx) (wb := wm) (va_runV (As := [.int a1]) (rest := []) ⟨hx, hb, hml, hown, hts⟩ (wX10_seed l dC dI kA _ x0 a1 hX0 hgd hxt) (cwV 1 hts gL_law_X10_seed rfl rfl rfl ⟨rfl, hdX10_seed⟩ ⟨(Nat.le_of_ble_eq_true rfl), (Nat.le_of_ble_eq_true rfl)⟩) ⟨zPc.blind, XOK_rec hK hX0 hP, zPre hK (wl_P hP) (wl_D hD)⟩ rfl rfl hl.1 rfl (lv_room (Nat.le_of_ble_eq_true rfl)) dL_law_390 ⟨hc1, hs1⟩) hP hD hS hA (fun r1 w1 H locs hw1 hP hD hS => ?_)
  refine lv_pop hx hb dL_law_393 rfl ?_
  refine lv_aload_n hx hb dL_law_394 rfl (lv_at hl 1 rfl) ?_
  refine lv_aload_n hx hb dL_law_395 rfl (lv_at hl 3 rfl) ?_
  refine lv_iload_n hx hb dL_law_396 rfl (lv_at hl 0 rfl) ?_
  refine lv_iconst (v := 1) hx hb dL_law_397 (by decide) ?_
  refine lv_iadd hx hb dL_law_398 ?_
  refine va_sld hx hb hX hbl hbA hS (z_sc hi hL (n := 1) (by decide) (by decide)) dL_law_399 ?_
  refine zi a1 ea1.symm ?_
  refine z_iL (wa := wm) (wb := w1) (va_runV (As := [.int a1]) (rest := []) ⟨hx, hb, hml, hown, hts⟩ (wX11_seed l dC dI kA _ n0 a1 hM0) (cwV 1 hts gL_law_X11_seed rfl rfl rfl ⟨rfl, hdX11_seed⟩ ⟨(Nat.le_of_ble_eq_true rfl), (Nat.le_of_ble_eq_true rfl)⟩) ⟨zPc.blind, MOK_rec hK hM0 (wp_P hP List.perm_append_comm), zPre hK (wl_P (wp_P hP List.perm_append_comm)) (wl_D (wp_D hD List.perm_append_comm))⟩ rfl rfl hl.1 rfl (lv_room (Nat.le_of_ble_eq_true rfl)) dL_law_400 ⟨hc2, hs2⟩) (wp_P hP List.perm_append_comm) (wp_D hD List.perm_append_comm) hS hA (fun r2 w2 H locs hw2 hP hD hS => ?_)
  have hP := wp_P hP (List.perm_append_comm)
  have hD := wp_D hD (List.perm_append_comm)
  refine lv_pop hx hb dL_law_403 rfl ?_
  refine lv_goto (tgt := 1730) hx hb dL_law_404 (by decide) ?_
  refine W.widen (k := cells + 40) (n := slots + 2000) (by omega) (by omega) ?_
  exact kk w1 w2 H locs ls ⟨_, _, _, hw1.2, hw2.2⟩ hP hD hS hl
set_option maxHeartbeats 4000000 in
set_option maxRecDepth 100000 in
theorem law_c5 {p : Program} {l : Launch} {e : Env} {s : State} {m : MethodId} {below : List Frame} {meth : Method} {c : Code} {b L : Nat} {xs : Nat → Int32} {dC : Nat → ClassId} {dI : Nat → Nat → Nat} {kA : Nat → ClassId} {aS vS : Nat} {oS : Option Nat} {x0 n0 : Nat} (C0 : lw_At p s m meth c b L xs) (hL : L ≤ 5120) (hK : zK dC dI kA s) (hZ : zStr aS vS oS (fun q : Nat => s.heap.size ≤ q) s s.heap) {i : Int32} (hi : 0 ≤ i.toInt ∧ i.toInt + 10 ≤ L) {cells slots : Nat} (hc : cells + 40 ≤ 600000) (hs : slots + 2000 ≤ 7302249) (kk : ∀ (wx wm : va_W) (H : Heap) (locs : List Loc) (ls : Array Slot), LInv kA x0 n0 wx wm → va_P (dC, dI) vwCl (wx ++ wm) H → va_D (fun q : Nat => s.heap.size ≤ q) (wx ++ wm) → va_S (fun q : Nat => s.heap.size ≤ q) s.heap H locs → lv_has ls 4 [(3, .int i), (2, .ref n0), (1, .ref x0), (0, .ref b)] → W p l e room_1 s m #[Value.ref b] below meth c H locs (cells + 40) (slots + 2000) (lw_Z below #[Value.ref b] s) (F0 m 1730 ls [])) (wx wm : va_W) (H : Heap) (locs : List Loc) (ls : Array Slot) (hI : LInv kA x0 n0 wx wm) (hP : va_P (dC, dI) vwCl (wx ++ wm) H) (hD : va_D (fun q : Nat => s.heap.size ≤ q) (wx ++ wm)) (hS : va_S (fun q : Nat => s.heap.size ≤ q) s.heap H locs) (hl : lv_has ls 4 [(3, .int i), (2, .ref n0), (1, .ref x0), (0, .ref b)]) : W p l e room_1 s m #[Value.ref b] below meth c H locs cells slots (lw_Z below #[Value.ref b] s) (F0 m 407 ls []) := by
  obtain ⟨hx, hb, hr, hml, hown0, hts0, hX, hbl, hlocks, hgv⟩ := C0
  have hown : s.vm.findClass RL = some m.cls := hown0
  have hts : ∀ w ∈ wsL_law, w.before #[Value.ref b] s = true := fun w h => hts0 w (wsL_law_in w h)
  have hA : ∀ q : Nat, s.heap.size ≤ q → (fun q : Nat => s.heap.size ≤ q) q := fun _ h => h
  have hbA : ¬ (fun q : Nat => s.heap.size ≤ q) b := Nat.not_le.mpr hbl
  obtain ⟨S_, LL, im, hX0, hM0⟩ := hI
  have hgd := MOK4_gd hM0
  have hxt := MOK4_xt hM0
  have hgr := MOK4_gr hM0
  have hgx := MOK4_gx hM0
  have hc1 : cells + 20 ≤ room_1.cells := by show cells + 20 ≤ 600000; omega
  have hs1 : slots + 1000 ≤ room_1.slots := by show slots + 1000 ≤ 7302249; omega
  have hc2 : cells + 20 + 20 ≤ room_1.cells := by show cells + 20 + 20 ≤ 600000; omega
  have hs2 : slots + 1000 + 1000 ≤ room_1.slots := by show slots + 1000 + 1000 ≤ 7302249; omega
  obtain ⟨a1, ea1⟩ : ∃ y : Int32, y = xs (i + 1).toNatClampNeg := ⟨_, rfl⟩
  obtain ⟨a2, ea2⟩ : ∃ y : Int32, y = xs (i + 2).toNatClampNeg := ⟨_, rfl⟩
  obtain ⟨a3, ea3⟩ : ∃ y : Int32, y = xs (i + 3).toNatClampNeg := ⟨_, rfl⟩
  obtain ⟨a4, ea4⟩ : ∃ y : Int32, y = xs (i + 4).toNatClampNeg := ⟨_, rfl⟩
  obtain ⟨a5, ea5⟩ : ∃ y : Int32, y = xs (i + 5).toNatClampNeg := ⟨_, rfl⟩
  refine lv_aload_n hx hb dL_law_407 rfl (lv_at hl 2 rfl) ?_
  refine lv_aload_n hx hb dL_law_408 rfl (lv_at hl 3 rfl) ?_
  refine lv_iload_n hx hb dL_law_409 rfl (lv_at hl 0 rfl) ?_
  refine lv_iconst (v := 1) hx hb dL_law_410 (by decide) ?_
  refine lv_iadd hx hb dL_law_411 ?_
  refine va_sld hx hb hX hbl hbA hS (z_sc hi hL (n := 1) (by decide) (by decide)) dL_law_412 ?_
  refine zi a1 ea1.symm ?_
  refine lv_aload_n hx hb dL_law_413 rfl (lv_at hl 3 rfl) ?_
  refine lv_iload_n hx hb dL_law_414 rfl (lv_at hl 0 rfl) ?_
  refine lv_iconst (v := 2) hx hb dL_law_415 (by decide) ?_
  refine lv_iadd hx hb dL_law_416 ?_
  refine va_sld hx hb hX hbl hbA hS (z_sc hi hL (n := 2) (by decide) (by decide)) dL_law_417 ?_
  refine zi a2 ea2.symm ?_
  refine lv_aload_n hx hb dL_law_418 rfl (lv_at hl 3 rfl) ?_
  refine lv_iload_n hx hb dL_law_419 rfl (lv_at hl 0 rfl) ?_
  refine lv_iconst (v := 3) hx hb dL_law_420 (by decide) ?_
  refine lv_iadd hx hb dL_law_421 ?_
  refine va_sld hx hb hX hbl hbA hS (z_sc hi hL (n := 3) (by decide) (by decide)) dL_law_422 ?_
  refine zi a3 ea3.symm ?_
  refine lv_aload_n hx hb dL_law_423 rfl (lv_at hl 3 rfl) ?_
  refine lv_iload_n hx hb dL_law_424 rfl (lv_at hl 0 rfl) ?_
  refine lv_iconst (v := 4) hx hb dL_law_425 (by decide) ?_
  refine lv_iadd hx hb dL_law_426 ?_
  refine va_sld hx hb hX hbl hbA hS (z_sc hi hL (n := 4) (by decide) (by decide)) dL_law_427 ?_
  refine zi a4 ea4.symm ?_
  refine lv_aload_n hx hb dL_law_428 rfl (lv_at hl 3 rfl) ?_
  refine lv_iload_n hx hb dL_law_429 rfl (lv_at hl 0 rfl) ?_
  refine lv_iconst (v := 5) hx hb dL_law_430 (by decide) ?_
  refine lv_iadd hx hb dL_law_431 ?_
  refine va_sld hx hb hX hbl hbA hS (z_sc hi hL (n := 5) (by decide) (by decide)) dL_law_432 ?_
  refine zi a5 ea5.symm ?_
  refine z_iL (wa := wx) (wb := wm) (va_runV (As := [.int a1, .int a2, .int a3, .int a4, .int a5]) (rest := []) ⟨hx, hb, hml, hown, hts⟩ (wX10_feed l dC dI kA _ x0 a1 a2 a3 a4 a5 hX0 hgd hxt) (cwV 5 hts gL_law_X10_feed rfl rfl rfl ⟨rfl, hdX10_feed⟩ ⟨(Nat.le_of_ble_eq_true rfl), (Nat.le_of_ble_eq_true rfl)⟩) ⟨zPc.blind, XOK_rec hK hX0 hP, zPre hK (wl_P hP) (wl_D hD)⟩ rfl rfl hl.1 rfl (lv_room (Nat.le_of_ble_eq_true rfl)) dL_law_433 ⟨hc1, hs1⟩) hP hD hS hA (fun r1 w1 H locs hw1 hP hD hS => ?_)
  refine lv_pop hx hb dL_law_436 rfl ?_
  refine lv_aload_n hx hb dL_law_437 rfl (lv_at hl 1 rfl) ?_
  refine lv_aload_n hx hb dL_law_438 rfl (lv_at hl 3 rfl) ?_
  refine lv_iload_n hx hb dL_law_439 rfl (lv_at hl 0 rfl) ?_
  refine lv_iconst (v := 1) hx hb dL_law_440 (by decide) ?_
  refine lv_iadd hx hb dL_law_441 ?_
  refine va_sld hx hb hX hbl hbA hS (z_sc hi hL (n := 1) (by decide) (by decide)) dL_law_442 ?_
  refine zi a1 ea1.symm ?_
  refine lv_aload_n hx hb dL_law_443 rfl (lv_at hl 3 rfl) ?_
  refine lv_iload_n hx hb dL_law_444 rfl (lv_at hl 0 rfl) ?_
  refine lv_iconst (v := 2) hx hb dL_law_445 (by decide) ?_
  refine lv_iadd hx hb dL_law_446 ?_
  refine va_sld hx hb hX hbl hbA hS (z_sc hi hL (n := 2) (by decide) (by decide)) dL_law_447 ?_
  refine zi a2 ea2.symm ?_
  refine lv_aload_n hx hb dL_law_448 rfl (lv_at hl 3 rfl) ?_
  refine lv_iload_n hx hb dL_law_449 rfl (lv_at hl 0 rfl) ?_
  refine lv_iconst (v := 3) hx hb dL_law_450 (by decide) ?_
  refine lv_iadd hx hb dL_law_451 ?_
  refine va_sld hx hb hX hbl hbA hS (z_sc hi hL (n := 3) (by decide) (by decide)) dL_law_452 ?_
  refine zi a3 ea3.symm ?_
  refine lv_aload_n hx hb dL_law_453 rfl (lv_at hl 3 rfl) ?_
  refine lv_iload_n hx hb dL_law_454 rfl (lv_at hl 0 rfl) ?_
  refine lv_iconst (v := 4) hx hb dL_law_455 (by decide) ?_
  refine lv_iadd hx hb dL_law_456 ?_
  refine va_sld hx hb hX hbl hbA hS (z_sc hi hL (n := 4) (by decide) (by decide)) dL_law_457 ?_
  refine zi a4 ea4.symm ?_
  refine lv_aload_n hx hb dL_law_458 rfl (lv_at hl 3 rfl) ?_
  refine lv_iload_n hx hb dL_law_459 rfl (lv_at hl 0 rfl) ?_
  refine lv_iconst (v := 5) hx hb dL_law_460 (by decide) ?_
  refine lv_iadd hx hb dL_law_461 ?_
  refine va_sld hx hb hX hbl hbA hS (z_sc hi hL (n := 5) (by decide) (by decide)) dL_law_462 ?_
  refine zi a5 ea5.symm ?_
  refine z_iL (wa := wm) (wb := w1) (va_runV (As := [.int a1, .int a2, .int a3, .int a4, .int a5]) (rest := []) ⟨hx, hb, hml, hown, hts⟩ (wX11_feed l dC dI kA _ n0 a1 a2 a3 a4 a5 hM0) (cwV 5 hts gL_law_X11_feed rfl rfl rfl ⟨rfl, hdX11_feed⟩ ⟨(Nat.le_of_ble_eq_true rfl), (Nat.le_of_ble_eq_true rfl)⟩) ⟨zPc.blind, MOK_rec hK hM0 (wp_P hP List.perm_append_comm), zPre hK (wl_P (wp_P hP List.perm_append_comm)) (wl_D (wp_D hD List.perm_append_comm))⟩ rfl rfl hl.1 rfl (lv_room (Nat.le_of_ble_eq_true rfl)) dL_law_463 ⟨hc2, hs2⟩) (wp_P hP List.perm_append_comm) (wp_D hD List.perm_append_comm) hS hA (fun r2 w2 H locs hw2 hP hD hS => ?_)
  have hP := wp_P hP (List.perm_append_comm)
  have hD := wp_D hD (List.perm_append_comm)
  refine lv_pop hx hb dL_law_466 rfl ?_
  refine lv_goto (tgt := 1730) hx hb dL_law_467 (by decide) ?_
  refine W.widen (k := cells + 40) (n := slots + 2000) (by omega) (by omega) ?_
  exact kk w1 w2 H locs ls ⟨_, _, _, hw1.2, hw2.2⟩ hP hD hS hl
set_option maxHeartbeats 4000000 in
set_option maxRecDepth 100000 in
theorem law_c6 {p : Program} {l : Launch} {e : Env} {s : State} {m : MethodId} {below : List Frame} {meth : Method} {c : Code} {b L : Nat} {xs : Nat → Int32} {dC : Nat → ClassId} {dI : Nat → Nat → Nat} {kA : Nat → ClassId} {aS vS : Nat} {oS : Option Nat} {x0 n0 : Nat} (C0 : lw_At p s m meth c b L xs) (hL : L ≤ 5120) (hK : zK dC dI kA s) (hZ : zStr aS vS oS (fun q : Nat => s.heap.size ≤ q) s s.heap) {i : Int32} (hi : 0 ≤ i.toInt ∧ i.toInt + 10 ≤ L) {cells slots : Nat} (hc : cells + 40 ≤ 600000) (hs : slots + 2000 ≤ 7302249) (kk : ∀ (wx wm : va_W) (H : Heap) (locs : List Loc) (ls : Array Slot), LInv kA x0 n0 wx wm → va_P (dC, dI) vwCl (wx ++ wm) H → va_D (fun q : Nat => s.heap.size ≤ q) (wx ++ wm) → va_S (fun q : Nat => s.heap.size ≤ q) s.heap H locs → lv_has ls 4 [(3, .int i), (2, .ref n0), (1, .ref x0), (0, .ref b)] → W p l e room_1 s m #[Value.ref b] below meth c H locs (cells + 40) (slots + 2000) (lw_Z below #[Value.ref b] s) (F0 m 1730 ls [])) (wx wm : va_W) (H : Heap) (locs : List Loc) (ls : Array Slot) (hI : LInv kA x0 n0 wx wm) (hP : va_P (dC, dI) vwCl (wx ++ wm) H) (hD : va_D (fun q : Nat => s.heap.size ≤ q) (wx ++ wm)) (hS : va_S (fun q : Nat => s.heap.size ≤ q) s.heap H locs) (hl : lv_has ls 4 [(3, .int i), (2, .ref n0), (1, .ref x0), (0, .ref b)]) : W p l e room_1 s m #[Value.ref b] below meth c H locs cells slots (lw_Z below #[Value.ref b] s) (F0 m 470 ls []) := by
  obtain ⟨hx, hb, hr, hml, hown0, hts0, hX, hbl, hlocks, hgv⟩ := C0
  have hown : s.vm.findClass RL = some m.cls := hown0
  have hts : ∀ w ∈ wsL_law, w.before #[Value.ref b] s = true := fun w h => hts0 w (wsL_law_in w h)
  have hA : ∀ q : Nat, s.heap.size ≤ q → (fun q : Nat => s.heap.size ≤ q) q := fun _ h => h
  have hbA : ¬ (fun q : Nat => s.heap.size ≤ q) b := Nat.not_le.mpr hbl
  obtain ⟨S_, LL, im, hX0, hM0⟩ := hI
  have hgd := MOK4_gd hM0
  have hxt := MOK4_xt hM0
  have hgr := MOK4_gr hM0
  have hgx := MOK4_gx hM0
  have hc1 : cells + 20 ≤ room_1.cells := by show cells + 20 ≤ 600000; omega
  have hs1 : slots + 1000 ≤ room_1.slots := by show slots + 1000 ≤ 7302249; omega
  have hc2 : cells + 20 + 20 ≤ room_1.cells := by show cells + 20 + 20 ≤ 600000; omega
  have hs2 : slots + 1000 + 1000 ≤ room_1.slots := by show slots + 1000 + 1000 ≤ 7302249; omega
  obtain ⟨a1, ea1⟩ : ∃ y : Int32, y = xs (i + 1).toNatClampNeg := ⟨_, rfl⟩
  refine lv_aload_n hx hb dL_law_470 rfl (lv_at hl 2 rfl) ?_
  refine lv_aload_n hx hb dL_law_471 rfl (lv_at hl 3 rfl) ?_
  refine lv_iload_n hx hb dL_law_472 rfl (lv_at hl 0 rfl) ?_
  refine lv_iconst (v := 1) hx hb dL_law_473 (by decide) ?_
  refine lv_iadd hx hb dL_law_474 ?_
  refine va_sld hx hb hX hbl hbA hS (z_sc hi hL (n := 1) (by decide) (by decide)) dL_law_475 ?_
  refine zi a1 ea1.symm ?_
  refine z_iL (wa := wx) (wb := wm) (va_runV (As := [.int a1]) (rest := []) ⟨hx, hb, hml, hown, hts⟩ (wX10_end l dC dI kA _ x0 a1 hX0 hgd hxt) (cwV 1 hts gL_law_X10_end rfl rfl rfl ⟨rfl, hdX10_end⟩ ⟨(Nat.le_of_ble_eq_true rfl), (Nat.le_of_ble_eq_true rfl)⟩) ⟨zPc.blind, XOK_rec hK hX0 hP, zPre hK (wl_P hP) (wl_D hD)⟩ rfl rfl hl.1 rfl (lv_room (Nat.le_of_ble_eq_true rfl)) dL_law_476 ⟨hc1, hs1⟩) hP hD hS hA (fun r1 w1 H locs hw1 hP hD hS => ?_)
  refine lv_pop hx hb dL_law_479 rfl ?_
  refine lv_aload_n hx hb dL_law_480 rfl (lv_at hl 1 rfl) ?_
  refine lv_aload_n hx hb dL_law_481 rfl (lv_at hl 3 rfl) ?_
  refine lv_iload_n hx hb dL_law_482 rfl (lv_at hl 0 rfl) ?_
  refine lv_iconst (v := 1) hx hb dL_law_483 (by decide) ?_
  refine lv_iadd hx hb dL_law_484 ?_
  refine va_sld hx hb hX hbl hbA hS (z_sc hi hL (n := 1) (by decide) (by decide)) dL_law_485 ?_
  refine zi a1 ea1.symm ?_
  refine z_iL (wa := wm) (wb := w1) (va_runV (As := [.int a1]) (rest := []) ⟨hx, hb, hml, hown, hts⟩ (wX11_end l dC dI kA _ n0 a1 hM0) (cwV 1 hts gL_law_X11_end rfl rfl rfl ⟨rfl, hdX11_end⟩ ⟨(Nat.le_of_ble_eq_true rfl), (Nat.le_of_ble_eq_true rfl)⟩) ⟨zPc.blind, MOK_rec hK hM0 (wp_P hP List.perm_append_comm), zPre hK (wl_P (wp_P hP List.perm_append_comm)) (wl_D (wp_D hD List.perm_append_comm))⟩ rfl rfl hl.1 rfl (lv_room (Nat.le_of_ble_eq_true rfl)) dL_law_486 ⟨hc2, hs2⟩) (wp_P hP List.perm_append_comm) (wp_D hD List.perm_append_comm) hS hA (fun r2 w2 H locs hw2 hP hD hS => ?_)
  have hP := wp_P hP (List.perm_append_comm)
  have hD := wp_D hD (List.perm_append_comm)
  refine lv_pop hx hb dL_law_489 rfl ?_
  refine lv_goto (tgt := 1730) hx hb dL_law_490 (by decide) ?_
  refine W.widen (k := cells + 40) (n := slots + 2000) (by omega) (by omega) ?_
  exact kk w1 w2 H locs ls ⟨_, _, _, hw1.2, hw2.2⟩ hP hD hS hl
set_option maxHeartbeats 4000000 in
set_option maxRecDepth 100000 in
theorem law_c7 {p : Program} {l : Launch} {e : Env} {s : State} {m : MethodId} {below : List Frame} {meth : Method} {c : Code} {b L : Nat} {xs : Nat → Int32} {dC : Nat → ClassId} {dI : Nat → Nat → Nat} {kA : Nat → ClassId} {aS vS : Nat} {oS : Option Nat} {x0 n0 : Nat} (C0 : lw_At p s m meth c b L xs) (hL : L ≤ 5120) (hK : zK dC dI kA s) (hZ : zStr aS vS oS (fun q : Nat => s.heap.size ≤ q) s s.heap) {i : Int32} (hi : 0 ≤ i.toInt ∧ i.toInt + 10 ≤ L) {cells slots : Nat} (hc : cells + 40 ≤ 600000) (hs : slots + 2000 ≤ 7302249) (kk : ∀ (wx wm : va_W) (H : Heap) (locs : List Loc) (ls : Array Slot), LInv kA x0 n0 wx wm → va_P (dC, dI) vwCl (wx ++ wm) H → va_D (fun q : Nat => s.heap.size ≤ q) (wx ++ wm) → va_S (fun q : Nat => s.heap.size ≤ q) s.heap H locs → lv_has ls 4 [(3, .int i), (2, .ref n0), (1, .ref x0), (0, .ref b)] → W p l e room_1 s m #[Value.ref b] below meth c H locs (cells + 40) (slots + 2000) (lw_Z below #[Value.ref b] s) (F0 m 1730 ls [])) (wx wm : va_W) (H : Heap) (locs : List Loc) (ls : Array Slot) (hI : LInv kA x0 n0 wx wm) (hP : va_P (dC, dI) vwCl (wx ++ wm) H) (hD : va_D (fun q : Nat => s.heap.size ≤ q) (wx ++ wm)) (hS : va_S (fun q : Nat => s.heap.size ≤ q) s.heap H locs) (hl : lv_has ls 4 [(3, .int i), (2, .ref n0), (1, .ref x0), (0, .ref b)]) : W p l e room_1 s m #[Value.ref b] below meth c H locs cells slots (lw_Z below #[Value.ref b] s) (F0 m 493 ls []) := by
  obtain ⟨hx, hb, hr, hml, hown0, hts0, hX, hbl, hlocks, hgv⟩ := C0
  have hown : s.vm.findClass RL = some m.cls := hown0
  have hts : ∀ w ∈ wsL_law, w.before #[Value.ref b] s = true := fun w h => hts0 w (wsL_law_in w h)
  have hA : ∀ q : Nat, s.heap.size ≤ q → (fun q : Nat => s.heap.size ≤ q) q := fun _ h => h
  have hbA : ¬ (fun q : Nat => s.heap.size ≤ q) b := Nat.not_le.mpr hbl
  obtain ⟨S_, LL, im, hX0, hM0⟩ := hI
  have hgd := MOK4_gd hM0
  have hxt := MOK4_xt hM0
  have hgr := MOK4_gr hM0
  have hgx := MOK4_gx hM0
  have hc1 : cells + 20 ≤ room_1.cells := by show cells + 20 ≤ 600000; omega
  have hs1 : slots + 1000 ≤ room_1.slots := by show slots + 1000 ≤ 7302249; omega
  have hc2 : cells + 20 + 20 ≤ room_1.cells := by show cells + 20 + 20 ≤ 600000; omega
  have hs2 : slots + 1000 + 1000 ≤ room_1.slots := by show slots + 1000 + 1000 ≤ 7302249; omega
  refine lv_aload_n hx hb dL_law_493 rfl (lv_at hl 2 rfl) ?_
  refine z_iL (wa := wx) (wb := wm) (va_runV (As := []) (rest := []) ⟨hx, hb, hml, hown, hts⟩ (wX10_law l dC dI kA _ aS vS oS x0  hX0 hgd hxt hgr hgx) (cwV 0 hts gL_law_X10_law rfl rfl rfl ⟨rfl, hdX10_law⟩ ⟨(Nat.le_of_ble_eq_true rfl), (Nat.le_of_ble_eq_true rfl)⟩) ⟨zPcS.blind, XOK_rec hK hX0 hP, zPreS hK (wl_P hP) (wl_D hD) hZ hS (wl_F hD hS hA)⟩ rfl rfl hl.1 rfl (lv_room (Nat.le_of_ble_eq_true rfl)) dL_law_494 ⟨hc1, hs1⟩) hP hD hS hA (fun r1 w1 H locs hw1 hP hD hS => ?_)
  refine lv_pop hx hb dL_law_497 rfl ?_
  refine lv_aload_n hx hb dL_law_498 rfl (lv_at hl 1 rfl) ?_
  refine z_iL (wa := wm) (wb := w1) (va_runV (As := []) (rest := []) ⟨hx, hb, hml, hown, hts⟩ (wX11_law l dC dI kA _ n0  hM0) (cwV 0 hts gL_law_X11_law rfl rfl rfl ⟨rfl, hdX11_law⟩ ⟨(Nat.le_of_ble_eq_true rfl), (Nat.le_of_ble_eq_true rfl)⟩) ⟨zPc.blind, MOK_rec hK hM0 (wp_P hP List.perm_append_comm), zPre hK (wl_P (wp_P hP List.perm_append_comm)) (wl_D (wp_D hD List.perm_append_comm))⟩ rfl rfl hl.1 rfl (lv_room (Nat.le_of_ble_eq_true rfl)) dL_law_499 ⟨hc2, hs2⟩) (wp_P hP List.perm_append_comm) (wp_D hD List.perm_append_comm) hS hA (fun r2 w2 H locs hw2 hP hD hS => ?_)
  have hP := wp_P hP (List.perm_append_comm)
  have hD := wp_D hD (List.perm_append_comm)
  refine lv_pop hx hb dL_law_502 rfl ?_
  refine lv_goto (tgt := 1730) hx hb dL_law_503 (by decide) ?_
  refine W.widen (k := cells + 40) (n := slots + 2000) (by omega) (by omega) ?_
  exact kk w1 w2 H locs ls ⟨_, _, _, hw1.2, hw2.2⟩ hP hD hS hl
set_option maxHeartbeats 4000000 in
set_option maxRecDepth 100000 in
theorem law_c8 {p : Program} {l : Launch} {e : Env} {s : State} {m : MethodId} {below : List Frame} {meth : Method} {c : Code} {b L : Nat} {xs : Nat → Int32} {dC : Nat → ClassId} {dI : Nat → Nat → Nat} {kA : Nat → ClassId} {aS vS : Nat} {oS : Option Nat} {x0 n0 : Nat} (C0 : lw_At p s m meth c b L xs) (hL : L ≤ 5120) (hK : zK dC dI kA s) (hZ : zStr aS vS oS (fun q : Nat => s.heap.size ≤ q) s s.heap) {i : Int32} (hi : 0 ≤ i.toInt ∧ i.toInt + 10 ≤ L) {cells slots : Nat} (hc : cells + 40 ≤ 600000) (hs : slots + 2000 ≤ 7302249) (kk : ∀ (wx wm : va_W) (H : Heap) (locs : List Loc) (ls : Array Slot), LInv kA x0 n0 wx wm → va_P (dC, dI) vwCl (wx ++ wm) H → va_D (fun q : Nat => s.heap.size ≤ q) (wx ++ wm) → va_S (fun q : Nat => s.heap.size ≤ q) s.heap H locs → lv_has ls 4 [(3, .int i), (2, .ref n0), (1, .ref x0), (0, .ref b)] → W p l e room_1 s m #[Value.ref b] below meth c H locs (cells + 40) (slots + 2000) (lw_Z below #[Value.ref b] s) (F0 m 1730 ls [])) (wx wm : va_W) (H : Heap) (locs : List Loc) (ls : Array Slot) (hI : LInv kA x0 n0 wx wm) (hP : va_P (dC, dI) vwCl (wx ++ wm) H) (hD : va_D (fun q : Nat => s.heap.size ≤ q) (wx ++ wm)) (hS : va_S (fun q : Nat => s.heap.size ≤ q) s.heap H locs) (hl : lv_has ls 4 [(3, .int i), (2, .ref n0), (1, .ref x0), (0, .ref b)]) : W p l e room_1 s m #[Value.ref b] below meth c H locs cells slots (lw_Z below #[Value.ref b] s) (F0 m 506 ls []) := by
  obtain ⟨hx, hb, hr, hml, hown0, hts0, hX, hbl, hlocks, hgv⟩ := C0
  have hown : s.vm.findClass RL = some m.cls := hown0
  have hts : ∀ w ∈ wsL_law, w.before #[Value.ref b] s = true := fun w h => hts0 w (wsL_law_in w h)
  have hA : ∀ q : Nat, s.heap.size ≤ q → (fun q : Nat => s.heap.size ≤ q) q := fun _ h => h
  have hbA : ¬ (fun q : Nat => s.heap.size ≤ q) b := Nat.not_le.mpr hbl
  obtain ⟨S_, LL, im, hX0, hM0⟩ := hI
  have hgd := MOK4_gd hM0
  have hxt := MOK4_xt hM0
  have hgr := MOK4_gr hM0
  have hgx := MOK4_gx hM0
  have hc1 : cells + 20 ≤ room_1.cells := by show cells + 20 ≤ 600000; omega
  have hs1 : slots + 1000 ≤ room_1.slots := by show slots + 1000 ≤ 7302249; omega
  have hc2 : cells + 20 + 20 ≤ room_1.cells := by show cells + 20 + 20 ≤ 600000; omega
  have hs2 : slots + 1000 + 1000 ≤ room_1.slots := by show slots + 1000 + 1000 ≤ 7302249; omega
  obtain ⟨a1, ea1⟩ : ∃ y : Int32, y = xs (i + 1).toNatClampNeg := ⟨_, rfl⟩
  obtain ⟨a2, ea2⟩ : ∃ y : Int32, y = xs (i + 2).toNatClampNeg := ⟨_, rfl⟩
  refine lv_aload_n hx hb dL_law_506 rfl (lv_at hl 2 rfl) ?_
  refine lv_aload_n hx hb dL_law_507 rfl (lv_at hl 3 rfl) ?_
  refine lv_iload_n hx hb dL_law_508 rfl (lv_at hl 0 rfl) ?_
  refine lv_iconst (v := 1) hx hb dL_law_509 (by decide) ?_
  refine lv_iadd hx hb dL_law_510 ?_
  refine va_sld hx hb hX hbl hbA hS (z_sc hi hL (n := 1) (by decide) (by decide)) dL_law_511 ?_
  refine zi a1 ea1.symm ?_
  refine lv_aload_n hx hb dL_law_512 rfl (lv_at hl 3 rfl) ?_
  refine lv_iload_n hx hb dL_law_513 rfl (lv_at hl 0 rfl) ?_
  refine lv_iconst (v := 2) hx hb dL_law_514 (by decide) ?_
  refine lv_iadd hx hb dL_law_515 ?_
  refine va_sld hx hb hX hbl hbA hS (z_sc hi hL (n := 2) (by decide) (by decide)) dL_law_516 ?_
  refine zi a2 ea2.symm ?_
  refine z_iL (wa := wx) (wb := wm) (va_runV (As := [.int a1, .int a2]) (rest := []) ⟨hx, hb, hml, hown, hts⟩ (wX10_fill l dC dI kA _ x0 a1 a2 hX0 hgd hxt) (cwV 2 hts gL_law_X10_fill rfl rfl rfl ⟨rfl, hdX10_fill⟩ ⟨(Nat.le_of_ble_eq_true rfl), (Nat.le_of_ble_eq_true rfl)⟩) ⟨zPc.blind, XOK_rec hK hX0 hP, zPre hK (wl_P hP) (wl_D hD)⟩ rfl rfl hl.1 rfl (lv_room (Nat.le_of_ble_eq_true rfl)) dL_law_517 ⟨hc1, hs1⟩) hP hD hS hA (fun r1 w1 H locs hw1 hP hD hS => ?_)
  refine lv_pop hx hb dL_law_520 rfl ?_
  refine lv_aload_n hx hb dL_law_521 rfl (lv_at hl 1 rfl) ?_
  refine lv_aload_n hx hb dL_law_522 rfl (lv_at hl 3 rfl) ?_
  refine lv_iload_n hx hb dL_law_523 rfl (lv_at hl 0 rfl) ?_
  refine lv_iconst (v := 1) hx hb dL_law_524 (by decide) ?_
  refine lv_iadd hx hb dL_law_525 ?_
  refine va_sld hx hb hX hbl hbA hS (z_sc hi hL (n := 1) (by decide) (by decide)) dL_law_526 ?_
  refine zi a1 ea1.symm ?_
  refine lv_aload_n hx hb dL_law_527 rfl (lv_at hl 3 rfl) ?_
  refine lv_iload_n hx hb dL_law_528 rfl (lv_at hl 0 rfl) ?_
  refine lv_iconst (v := 2) hx hb dL_law_529 (by decide) ?_
  refine lv_iadd hx hb dL_law_530 ?_
  refine va_sld hx hb hX hbl hbA hS (z_sc hi hL (n := 2) (by decide) (by decide)) dL_law_531 ?_
  refine zi a2 ea2.symm ?_
  refine z_iL (wa := wm) (wb := w1) (va_runV (As := [.int a1, .int a2]) (rest := []) ⟨hx, hb, hml, hown, hts⟩ (wX11_fill l dC dI kA _ n0 a1 a2 hM0) (cwV 2 hts gL_law_X11_fill rfl rfl rfl ⟨rfl, hdX11_fill⟩ ⟨(Nat.le_of_ble_eq_true rfl), (Nat.le_of_ble_eq_true rfl)⟩) ⟨zPc.blind, MOK_rec hK hM0 (wp_P hP List.perm_append_comm), zPre hK (wl_P (wp_P hP List.perm_append_comm)) (wl_D (wp_D hD List.perm_append_comm))⟩ rfl rfl hl.1 rfl (lv_room (Nat.le_of_ble_eq_true rfl)) dL_law_532 ⟨hc2, hs2⟩) (wp_P hP List.perm_append_comm) (wp_D hD List.perm_append_comm) hS hA (fun r2 w2 H locs hw2 hP hD hS => ?_)
  have hP := wp_P hP (List.perm_append_comm)
  have hD := wp_D hD (List.perm_append_comm)
  refine lv_pop hx hb dL_law_535 rfl ?_
  refine lv_goto (tgt := 1730) hx hb dL_law_536 (by decide) ?_
  refine W.widen (k := cells + 40) (n := slots + 2000) (by omega) (by omega) ?_
  exact kk w1 w2 H locs ls ⟨_, _, _, hw1.2, hw2.2⟩ hP hD hS hl
set_option maxHeartbeats 4000000 in
set_option maxRecDepth 100000 in
theorem law_c9 {p : Program} {l : Launch} {e : Env} {s : State} {m : MethodId} {below : List Frame} {meth : Method} {c : Code} {b L : Nat} {xs : Nat → Int32} {dC : Nat → ClassId} {dI : Nat → Nat → Nat} {kA : Nat → ClassId} {aS vS : Nat} {oS : Option Nat} {x0 n0 : Nat} (C0 : lw_At p s m meth c b L xs) (hL : L ≤ 5120) (hK : zK dC dI kA s) (hZ : zStr aS vS oS (fun q : Nat => s.heap.size ≤ q) s s.heap) {i : Int32} (hi : 0 ≤ i.toInt ∧ i.toInt + 10 ≤ L) {cells slots : Nat} (hc : cells + 40 ≤ 600000) (hs : slots + 2000 ≤ 7302249) (kk : ∀ (wx wm : va_W) (H : Heap) (locs : List Loc) (ls : Array Slot), LInv kA x0 n0 wx wm → va_P (dC, dI) vwCl (wx ++ wm) H → va_D (fun q : Nat => s.heap.size ≤ q) (wx ++ wm) → va_S (fun q : Nat => s.heap.size ≤ q) s.heap H locs → lv_has ls 4 [(3, .int i), (2, .ref n0), (1, .ref x0), (0, .ref b)] → W p l e room_1 s m #[Value.ref b] below meth c H locs (cells + 40) (slots + 2000) (lw_Z below #[Value.ref b] s) (F0 m 1730 ls [])) (wx wm : va_W) (H : Heap) (locs : List Loc) (ls : Array Slot) (hI : LInv kA x0 n0 wx wm) (hP : va_P (dC, dI) vwCl (wx ++ wm) H) (hD : va_D (fun q : Nat => s.heap.size ≤ q) (wx ++ wm)) (hS : va_S (fun q : Nat => s.heap.size ≤ q) s.heap H locs) (hl : lv_has ls 4 [(3, .int i), (2, .ref n0), (1, .ref x0), (0, .ref b)]) : W p l e room_1 s m #[Value.ref b] below meth c H locs cells slots (lw_Z below #[Value.ref b] s) (F0 m 539 ls []) := by
  obtain ⟨hx, hb, hr, hml, hown0, hts0, hX, hbl, hlocks, hgv⟩ := C0
  have hown : s.vm.findClass RL = some m.cls := hown0
  have hts : ∀ w ∈ wsL_law, w.before #[Value.ref b] s = true := fun w h => hts0 w (wsL_law_in w h)
  have hA : ∀ q : Nat, s.heap.size ≤ q → (fun q : Nat => s.heap.size ≤ q) q := fun _ h => h
  have hbA : ¬ (fun q : Nat => s.heap.size ≤ q) b := Nat.not_le.mpr hbl
  obtain ⟨S_, LL, im, hX0, hM0⟩ := hI
  have hgd := MOK4_gd hM0
  have hxt := MOK4_xt hM0
  have hgr := MOK4_gr hM0
  have hgx := MOK4_gx hM0
  have hc1 : cells + 20 ≤ room_1.cells := by show cells + 20 ≤ 600000; omega
  have hs1 : slots + 1000 ≤ room_1.slots := by show slots + 1000 ≤ 7302249; omega
  have hc2 : cells + 20 + 20 ≤ room_1.cells := by show cells + 20 + 20 ≤ 600000; omega
  have hs2 : slots + 1000 + 1000 ≤ room_1.slots := by show slots + 1000 + 1000 ≤ 7302249; omega
  obtain ⟨a1, ea1⟩ : ∃ y : Int32, y = xs (i + 1).toNatClampNeg := ⟨_, rfl⟩
  refine lv_aload_n hx hb dL_law_539 rfl (lv_at hl 2 rfl) ?_
  refine lv_aload_n hx hb dL_law_540 rfl (lv_at hl 3 rfl) ?_
  refine lv_iload_n hx hb dL_law_541 rfl (lv_at hl 0 rfl) ?_
  refine lv_iconst (v := 1) hx hb dL_law_542 (by decide) ?_
  refine lv_iadd hx hb dL_law_543 ?_
  refine va_sld hx hb hX hbl hbA hS (z_sc hi hL (n := 1) (by decide) (by decide)) dL_law_544 ?_
  refine zi a1 ea1.symm ?_
  refine z_iL (wa := wx) (wb := wm) (va_runV (As := [.int a1]) (rest := []) ⟨hx, hb, hml, hown, hts⟩ (wX10_pour l dC dI kA _ x0 a1 hX0 hgd hxt) (cwV 1 hts gL_law_X10_pour rfl rfl rfl ⟨rfl, hdX10_pour⟩ ⟨(Nat.le_of_ble_eq_true rfl), (Nat.le_of_ble_eq_true rfl)⟩) ⟨zPc.blind, XOK_rec hK hX0 hP, zPre hK (wl_P hP) (wl_D hD)⟩ rfl rfl hl.1 rfl (lv_room (Nat.le_of_ble_eq_true rfl)) dL_law_545 ⟨hc1, hs1⟩) hP hD hS hA (fun r1 w1 H locs hw1 hP hD hS => ?_)
  refine lv_aload_n hx hb dL_law_548 rfl (lv_at hl 1 rfl) ?_
  refine lv_aload_n hx hb dL_law_549 rfl (lv_at hl 3 rfl) ?_
  refine lv_iload_n hx hb dL_law_550 rfl (lv_at hl 0 rfl) ?_
  refine lv_iconst (v := 1) hx hb dL_law_551 (by decide) ?_
  refine lv_iadd hx hb dL_law_552 ?_
  refine va_sld hx hb hX hbl hbA hS (z_sc hi hL (n := 1) (by decide) (by decide)) dL_law_553 ?_
  refine zi a1 ea1.symm ?_
  refine z_iL (wa := wm) (wb := w1) (va_runV (As := [.int a1]) (rest := [.int r1]) ⟨hx, hb, hml, hown, hts⟩ (wX11_pour l dC dI kA _ n0 a1 hM0) (cwV 1 hts gL_law_X11_pour rfl rfl rfl ⟨rfl, hdX11_pour⟩ ⟨(Nat.le_of_ble_eq_true rfl), (Nat.le_of_ble_eq_true rfl)⟩) ⟨zPc.blind, MOK_rec hK hM0 (wp_P hP List.perm_append_comm), zPre hK (wl_P (wp_P hP List.perm_append_comm)) (wl_D (wp_D hD List.perm_append_comm))⟩ rfl rfl hl.1 rfl (lv_room (Nat.le_of_ble_eq_true rfl)) dL_law_554 ⟨hc2, hs2⟩) (wp_P hP List.perm_append_comm) (wp_D hD List.perm_append_comm) hS hA (fun r2 w2 H locs hw2 hP hD hS => ?_)
  have hP := wp_P hP (List.perm_append_comm)
  have hD := wp_D hD (List.perm_append_comm)
  refine lv_icmp_eq (tgt := 1730) hx hb dL_law_557 (by decide) (fun _ => ?_) (fun q9 => absurd (hw1.1.trans hw2.1.symm) q9)
  refine W.widen (k := cells + 40) (n := slots + 2000) (by omega) (by omega) ?_
  exact kk w1 w2 H locs ls ⟨_, _, _, hw1.2, hw2.2⟩ hP hD hS hl
set_option maxHeartbeats 4000000 in
set_option maxRecDepth 100000 in
theorem law_c10 {p : Program} {l : Launch} {e : Env} {s : State} {m : MethodId} {below : List Frame} {meth : Method} {c : Code} {b L : Nat} {xs : Nat → Int32} {dC : Nat → ClassId} {dI : Nat → Nat → Nat} {kA : Nat → ClassId} {aS vS : Nat} {oS : Option Nat} {x0 n0 : Nat} (C0 : lw_At p s m meth c b L xs) (hL : L ≤ 5120) (hK : zK dC dI kA s) (hZ : zStr aS vS oS (fun q : Nat => s.heap.size ≤ q) s s.heap) {i : Int32} (hi : 0 ≤ i.toInt ∧ i.toInt + 10 ≤ L) {cells slots : Nat} (hc : cells + 40 ≤ 600000) (hs : slots + 2000 ≤ 7302249) (kk : ∀ (wx wm : va_W) (H : Heap) (locs : List Loc) (ls : Array Slot), LInv kA x0 n0 wx wm → va_P (dC, dI) vwCl (wx ++ wm) H → va_D (fun q : Nat => s.heap.size ≤ q) (wx ++ wm) → va_S (fun q : Nat => s.heap.size ≤ q) s.heap H locs → lv_has ls 4 [(3, .int i), (2, .ref n0), (1, .ref x0), (0, .ref b)] → W p l e room_1 s m #[Value.ref b] below meth c H locs (cells + 40) (slots + 2000) (lw_Z below #[Value.ref b] s) (F0 m 1730 ls [])) (wx wm : va_W) (H : Heap) (locs : List Loc) (ls : Array Slot) (hI : LInv kA x0 n0 wx wm) (hP : va_P (dC, dI) vwCl (wx ++ wm) H) (hD : va_D (fun q : Nat => s.heap.size ≤ q) (wx ++ wm)) (hS : va_S (fun q : Nat => s.heap.size ≤ q) s.heap H locs) (hl : lv_has ls 4 [(3, .int i), (2, .ref n0), (1, .ref x0), (0, .ref b)]) : W p l e room_1 s m #[Value.ref b] below meth c H locs cells slots (lw_Z below #[Value.ref b] s) (F0 m 562 ls []) := by
  obtain ⟨hx, hb, hr, hml, hown0, hts0, hX, hbl, hlocks, hgv⟩ := C0
  have hown : s.vm.findClass RL = some m.cls := hown0
  have hts : ∀ w ∈ wsL_law, w.before #[Value.ref b] s = true := fun w h => hts0 w (wsL_law_in w h)
  have hA : ∀ q : Nat, s.heap.size ≤ q → (fun q : Nat => s.heap.size ≤ q) q := fun _ h => h
  have hbA : ¬ (fun q : Nat => s.heap.size ≤ q) b := Nat.not_le.mpr hbl
  obtain ⟨S_, LL, im, hX0, hM0⟩ := hI
  have hgd := MOK4_gd hM0
  have hxt := MOK4_xt hM0
  have hgr := MOK4_gr hM0
  have hgx := MOK4_gx hM0
  have hc1 : cells + 20 ≤ room_1.cells := by show cells + 20 ≤ 600000; omega
  have hs1 : slots + 1000 ≤ room_1.slots := by show slots + 1000 ≤ 7302249; omega
  have hc2 : cells + 20 + 20 ≤ room_1.cells := by show cells + 20 + 20 ≤ 600000; omega
  have hs2 : slots + 1000 + 1000 ≤ room_1.slots := by show slots + 1000 + 1000 ≤ 7302249; omega
  obtain ⟨a1, ea1⟩ : ∃ y : Int32, y = xs (i + 1).toNatClampNeg := ⟨_, rfl⟩
  obtain ⟨a2, ea2⟩ : ∃ y : Int32, y = xs (i + 2).toNatClampNeg := ⟨_, rfl⟩
  refine lv_aload_n hx hb dL_law_562 rfl (lv_at hl 2 rfl) ?_
  refine lv_aload_n hx hb dL_law_563 rfl (lv_at hl 3 rfl) ?_
  refine lv_iload_n hx hb dL_law_564 rfl (lv_at hl 0 rfl) ?_
  refine lv_iconst (v := 1) hx hb dL_law_565 (by decide) ?_
  refine lv_iadd hx hb dL_law_566 ?_
  refine va_sld hx hb hX hbl hbA hS (z_sc hi hL (n := 1) (by decide) (by decide)) dL_law_567 ?_
  refine zi a1 ea1.symm ?_
  refine lv_aload_n hx hb dL_law_568 rfl (lv_at hl 3 rfl) ?_
  refine lv_iload_n hx hb dL_law_569 rfl (lv_at hl 0 rfl) ?_
  refine lv_iconst (v := 2) hx hb dL_law_570 (by decide) ?_
  refine lv_iadd hx hb dL_law_571 ?_
  refine va_sld hx hb hX hbl hbA hS (z_sc hi hL (n := 2) (by decide) (by decide)) dL_law_572 ?_
  refine zi a2 ea2.symm ?_
  refine z_iL (wa := wx) (wb := wm) (va_runV (As := [.int a1, .int a2]) (rest := []) ⟨hx, hb, hml, hown, hts⟩ (wX10_store l dC dI kA _ x0 a1 a2 hX0 hgd hxt) (cwV 2 hts gL_law_X10_store rfl rfl rfl ⟨rfl, hdX10_store⟩ ⟨(Nat.le_of_ble_eq_true rfl), (Nat.le_of_ble_eq_true rfl)⟩) ⟨zPc.blind, XOK_rec hK hX0 hP, zPre hK (wl_P hP) (wl_D hD)⟩ rfl rfl hl.1 rfl (lv_room (Nat.le_of_ble_eq_true rfl)) dL_law_573 ⟨hc1, hs1⟩) hP hD hS hA (fun r1 w1 H locs hw1 hP hD hS => ?_)
  refine lv_pop hx hb dL_law_576 rfl ?_
  refine lv_aload_n hx hb dL_law_577 rfl (lv_at hl 1 rfl) ?_
  refine lv_aload_n hx hb dL_law_578 rfl (lv_at hl 3 rfl) ?_
  refine lv_iload_n hx hb dL_law_579 rfl (lv_at hl 0 rfl) ?_
  refine lv_iconst (v := 1) hx hb dL_law_580 (by decide) ?_
  refine lv_iadd hx hb dL_law_581 ?_
  refine va_sld hx hb hX hbl hbA hS (z_sc hi hL (n := 1) (by decide) (by decide)) dL_law_582 ?_
  refine zi a1 ea1.symm ?_
  refine lv_aload_n hx hb dL_law_583 rfl (lv_at hl 3 rfl) ?_
  refine lv_iload_n hx hb dL_law_584 rfl (lv_at hl 0 rfl) ?_
  refine lv_iconst (v := 2) hx hb dL_law_585 (by decide) ?_
  refine lv_iadd hx hb dL_law_586 ?_
  refine va_sld hx hb hX hbl hbA hS (z_sc hi hL (n := 2) (by decide) (by decide)) dL_law_587 ?_
  refine zi a2 ea2.symm ?_
  refine z_iL (wa := wm) (wb := w1) (va_runV (As := [.int a1, .int a2]) (rest := []) ⟨hx, hb, hml, hown, hts⟩ (wX11_store l dC dI kA _ n0 a1 a2 hM0) (cwV 2 hts gL_law_X11_store rfl rfl rfl ⟨rfl, hdX11_store⟩ ⟨(Nat.le_of_ble_eq_true rfl), (Nat.le_of_ble_eq_true rfl)⟩) ⟨zPc.blind, MOK_rec hK hM0 (wp_P hP List.perm_append_comm), zPre hK (wl_P (wp_P hP List.perm_append_comm)) (wl_D (wp_D hD List.perm_append_comm))⟩ rfl rfl hl.1 rfl (lv_room (Nat.le_of_ble_eq_true rfl)) dL_law_588 ⟨hc2, hs2⟩) (wp_P hP List.perm_append_comm) (wp_D hD List.perm_append_comm) hS hA (fun r2 w2 H locs hw2 hP hD hS => ?_)
  have hP := wp_P hP (List.perm_append_comm)
  have hD := wp_D hD (List.perm_append_comm)
  refine lv_pop hx hb dL_law_591 rfl ?_
  refine lv_goto (tgt := 1730) hx hb dL_law_592 (by decide) ?_
  refine W.widen (k := cells + 40) (n := slots + 2000) (by omega) (by omega) ?_
  exact kk w1 w2 H locs ls ⟨_, _, _, hw1.2, hw2.2⟩ hP hD hS hl
set_option maxHeartbeats 4000000 in
set_option maxRecDepth 100000 in
theorem law_c11 {p : Program} {l : Launch} {e : Env} {s : State} {m : MethodId} {below : List Frame} {meth : Method} {c : Code} {b L : Nat} {xs : Nat → Int32} {dC : Nat → ClassId} {dI : Nat → Nat → Nat} {kA : Nat → ClassId} {aS vS : Nat} {oS : Option Nat} {x0 n0 : Nat} (C0 : lw_At p s m meth c b L xs) (hL : L ≤ 5120) (hK : zK dC dI kA s) (hZ : zStr aS vS oS (fun q : Nat => s.heap.size ≤ q) s s.heap) {i : Int32} (hi : 0 ≤ i.toInt ∧ i.toInt + 10 ≤ L) {cells slots : Nat} (hc : cells + 40 ≤ 600000) (hs : slots + 2000 ≤ 7302249) (kk : ∀ (wx wm : va_W) (H : Heap) (locs : List Loc) (ls : Array Slot), LInv kA x0 n0 wx wm → va_P (dC, dI) vwCl (wx ++ wm) H → va_D (fun q : Nat => s.heap.size ≤ q) (wx ++ wm) → va_S (fun q : Nat => s.heap.size ≤ q) s.heap H locs → lv_has ls 4 [(3, .int i), (2, .ref n0), (1, .ref x0), (0, .ref b)] → W p l e room_1 s m #[Value.ref b] below meth c H locs (cells + 40) (slots + 2000) (lw_Z below #[Value.ref b] s) (F0 m 1730 ls [])) (wx wm : va_W) (H : Heap) (locs : List Loc) (ls : Array Slot) (hI : LInv kA x0 n0 wx wm) (hP : va_P (dC, dI) vwCl (wx ++ wm) H) (hD : va_D (fun q : Nat => s.heap.size ≤ q) (wx ++ wm)) (hS : va_S (fun q : Nat => s.heap.size ≤ q) s.heap H locs) (hl : lv_has ls 4 [(3, .int i), (2, .ref n0), (1, .ref x0), (0, .ref b)]) : W p l e room_1 s m #[Value.ref b] below meth c H locs cells slots (lw_Z below #[Value.ref b] s) (F0 m 595 ls []) := by
  obtain ⟨hx, hb, hr, hml, hown0, hts0, hX, hbl, hlocks, hgv⟩ := C0
  have hown : s.vm.findClass RL = some m.cls := hown0
  have hts : ∀ w ∈ wsL_law, w.before #[Value.ref b] s = true := fun w h => hts0 w (wsL_law_in w h)
  have hA : ∀ q : Nat, s.heap.size ≤ q → (fun q : Nat => s.heap.size ≤ q) q := fun _ h => h
  have hbA : ¬ (fun q : Nat => s.heap.size ≤ q) b := Nat.not_le.mpr hbl
  obtain ⟨S_, LL, im, hX0, hM0⟩ := hI
  have hgd := MOK4_gd hM0
  have hxt := MOK4_xt hM0
  have hgr := MOK4_gr hM0
  have hgx := MOK4_gx hM0
  have hc1 : cells + 20 ≤ room_1.cells := by show cells + 20 ≤ 600000; omega
  have hs1 : slots + 1000 ≤ room_1.slots := by show slots + 1000 ≤ 7302249; omega
  have hc2 : cells + 20 + 20 ≤ room_1.cells := by show cells + 20 + 20 ≤ 600000; omega
  have hs2 : slots + 1000 + 1000 ≤ room_1.slots := by show slots + 1000 + 1000 ≤ 7302249; omega
  obtain ⟨a1, ea1⟩ : ∃ y : Int32, y = xs (i + 1).toNatClampNeg := ⟨_, rfl⟩
  obtain ⟨a2, ea2⟩ : ∃ y : Int32, y = xs (i + 2).toNatClampNeg := ⟨_, rfl⟩
  refine lv_aload_n hx hb dL_law_595 rfl (lv_at hl 2 rfl) ?_
  refine lv_aload_n hx hb dL_law_596 rfl (lv_at hl 3 rfl) ?_
  refine lv_iload_n hx hb dL_law_597 rfl (lv_at hl 0 rfl) ?_
  refine lv_iconst (v := 1) hx hb dL_law_598 (by decide) ?_
  refine lv_iadd hx hb dL_law_599 ?_
  refine va_sld hx hb hX hbl hbA hS (z_sc hi hL (n := 1) (by decide) (by decide)) dL_law_600 ?_
  refine zi a1 ea1.symm ?_
  refine lv_aload_n hx hb dL_law_601 rfl (lv_at hl 3 rfl) ?_
  refine lv_iload_n hx hb dL_law_602 rfl (lv_at hl 0 rfl) ?_
  refine lv_iconst (v := 2) hx hb dL_law_603 (by decide) ?_
  refine lv_iadd hx hb dL_law_604 ?_
  refine va_sld hx hb hX hbl hbA hS (z_sc hi hL (n := 2) (by decide) (by decide)) dL_law_605 ?_
  refine zi a2 ea2.symm ?_
  refine z_iL (wa := wx) (wb := wm) (va_runV (As := [.int a1, .int a2]) (rest := []) ⟨hx, hb, hml, hown, hts⟩ (wX10_leave l dC dI kA _ x0 a1 a2 hX0 hgd hxt) (cwV 2 hts gL_law_X10_leave rfl rfl rfl ⟨rfl, hdX10_leave⟩ ⟨(Nat.le_of_ble_eq_true rfl), (Nat.le_of_ble_eq_true rfl)⟩) ⟨zPc.blind, XOK_rec hK hX0 hP, zPre hK (wl_P hP) (wl_D hD)⟩ rfl rfl hl.1 rfl (lv_room (Nat.le_of_ble_eq_true rfl)) dL_law_606 ⟨hc1, hs1⟩) hP hD hS hA (fun r1 w1 H locs hw1 hP hD hS => ?_)
  refine lv_pop hx hb dL_law_609 rfl ?_
  refine lv_aload_n hx hb dL_law_610 rfl (lv_at hl 1 rfl) ?_
  refine lv_aload_n hx hb dL_law_611 rfl (lv_at hl 3 rfl) ?_
  refine lv_iload_n hx hb dL_law_612 rfl (lv_at hl 0 rfl) ?_
  refine lv_iconst (v := 1) hx hb dL_law_613 (by decide) ?_
  refine lv_iadd hx hb dL_law_614 ?_
  refine va_sld hx hb hX hbl hbA hS (z_sc hi hL (n := 1) (by decide) (by decide)) dL_law_615 ?_
  refine zi a1 ea1.symm ?_
  refine lv_aload_n hx hb dL_law_616 rfl (lv_at hl 3 rfl) ?_
  refine lv_iload_n hx hb dL_law_617 rfl (lv_at hl 0 rfl) ?_
  refine lv_iconst (v := 2) hx hb dL_law_618 (by decide) ?_
  refine lv_iadd hx hb dL_law_619 ?_
  refine va_sld hx hb hX hbl hbA hS (z_sc hi hL (n := 2) (by decide) (by decide)) dL_law_620 ?_
  refine zi a2 ea2.symm ?_
  refine z_iL (wa := wm) (wb := w1) (va_runV (As := [.int a1, .int a2]) (rest := []) ⟨hx, hb, hml, hown, hts⟩ (wX11_leave l dC dI kA _ n0 a1 a2 hM0) (cwV 2 hts gL_law_X11_leave rfl rfl rfl ⟨rfl, hdX11_leave⟩ ⟨(Nat.le_of_ble_eq_true rfl), (Nat.le_of_ble_eq_true rfl)⟩) ⟨zPc.blind, MOK_rec hK hM0 (wp_P hP List.perm_append_comm), zPre hK (wl_P (wp_P hP List.perm_append_comm)) (wl_D (wp_D hD List.perm_append_comm))⟩ rfl rfl hl.1 rfl (lv_room (Nat.le_of_ble_eq_true rfl)) dL_law_621 ⟨hc2, hs2⟩) (wp_P hP List.perm_append_comm) (wp_D hD List.perm_append_comm) hS hA (fun r2 w2 H locs hw2 hP hD hS => ?_)
  have hP := wp_P hP (List.perm_append_comm)
  have hD := wp_D hD (List.perm_append_comm)
  refine lv_pop hx hb dL_law_624 rfl ?_
  refine lv_goto (tgt := 1730) hx hb dL_law_625 (by decide) ?_
  refine W.widen (k := cells + 40) (n := slots + 2000) (by omega) (by omega) ?_
  exact kk w1 w2 H locs ls ⟨_, _, _, hw1.2, hw2.2⟩ hP hD hS hl
set_option maxHeartbeats 4000000 in
set_option maxRecDepth 100000 in
theorem law_c12 {p : Program} {l : Launch} {e : Env} {s : State} {m : MethodId} {below : List Frame} {meth : Method} {c : Code} {b L : Nat} {xs : Nat → Int32} {dC : Nat → ClassId} {dI : Nat → Nat → Nat} {kA : Nat → ClassId} {aS vS : Nat} {oS : Option Nat} {x0 n0 : Nat} (C0 : lw_At p s m meth c b L xs) (hL : L ≤ 5120) (hK : zK dC dI kA s) (hZ : zStr aS vS oS (fun q : Nat => s.heap.size ≤ q) s s.heap) {i : Int32} (hi : 0 ≤ i.toInt ∧ i.toInt + 10 ≤ L) {cells slots : Nat} (hc : cells + 40 ≤ 600000) (hs : slots + 2000 ≤ 7302249) (kk : ∀ (wx wm : va_W) (H : Heap) (locs : List Loc) (ls : Array Slot), LInv kA x0 n0 wx wm → va_P (dC, dI) vwCl (wx ++ wm) H → va_D (fun q : Nat => s.heap.size ≤ q) (wx ++ wm) → va_S (fun q : Nat => s.heap.size ≤ q) s.heap H locs → lv_has ls 4 [(3, .int i), (2, .ref n0), (1, .ref x0), (0, .ref b)] → W p l e room_1 s m #[Value.ref b] below meth c H locs (cells + 40) (slots + 2000) (lw_Z below #[Value.ref b] s) (F0 m 1730 ls [])) (wx wm : va_W) (H : Heap) (locs : List Loc) (ls : Array Slot) (hI : LInv kA x0 n0 wx wm) (hP : va_P (dC, dI) vwCl (wx ++ wm) H) (hD : va_D (fun q : Nat => s.heap.size ≤ q) (wx ++ wm)) (hS : va_S (fun q : Nat => s.heap.size ≤ q) s.heap H locs) (hl : lv_has ls 4 [(3, .int i), (2, .ref n0), (1, .ref x0), (0, .ref b)]) : W p l e room_1 s m #[Value.ref b] below meth c H locs cells slots (lw_Z below #[Value.ref b] s) (F0 m 628 ls []) := by
  obtain ⟨hx, hb, hr, hml, hown0, hts0, hX, hbl, hlocks, hgv⟩ := C0
  have hown : s.vm.findClass RL = some m.cls := hown0
  have hts : ∀ w ∈ wsL_law, w.before #[Value.ref b] s = true := fun w h => hts0 w (wsL_law_in w h)
  have hA : ∀ q : Nat, s.heap.size ≤ q → (fun q : Nat => s.heap.size ≤ q) q := fun _ h => h
  have hbA : ¬ (fun q : Nat => s.heap.size ≤ q) b := Nat.not_le.mpr hbl
  obtain ⟨S_, LL, im, hX0, hM0⟩ := hI
  have hgd := MOK4_gd hM0
  have hxt := MOK4_xt hM0
  have hgr := MOK4_gr hM0
  have hgx := MOK4_gx hM0
  have hc1 : cells + 20 ≤ room_1.cells := by show cells + 20 ≤ 600000; omega
  have hs1 : slots + 1000 ≤ room_1.slots := by show slots + 1000 ≤ 7302249; omega
  have hc2 : cells + 20 + 20 ≤ room_1.cells := by show cells + 20 + 20 ≤ 600000; omega
  have hs2 : slots + 1000 + 1000 ≤ room_1.slots := by show slots + 1000 + 1000 ≤ 7302249; omega
  obtain ⟨a1, ea1⟩ : ∃ y : Int32, y = xs (i + 1).toNatClampNeg := ⟨_, rfl⟩
  obtain ⟨a2, ea2⟩ : ∃ y : Int32, y = xs (i + 2).toNatClampNeg := ⟨_, rfl⟩
  refine lv_aload_n hx hb dL_law_628 rfl (lv_at hl 2 rfl) ?_
  refine lv_aload_n hx hb dL_law_629 rfl (lv_at hl 3 rfl) ?_
  refine lv_iload_n hx hb dL_law_630 rfl (lv_at hl 0 rfl) ?_
  refine lv_iconst (v := 1) hx hb dL_law_631 (by decide) ?_
  refine lv_iadd hx hb dL_law_632 ?_
  refine va_sld hx hb hX hbl hbA hS (z_sc hi hL (n := 1) (by decide) (by decide)) dL_law_633 ?_
  refine zi a1 ea1.symm ?_
  refine lv_aload_n hx hb dL_law_634 rfl (lv_at hl 3 rfl) ?_
  refine lv_iload_n hx hb dL_law_635 rfl (lv_at hl 0 rfl) ?_
  refine lv_iconst (v := 2) hx hb dL_law_636 (by decide) ?_
  refine lv_iadd hx hb dL_law_637 ?_
  refine va_sld hx hb hX hbl hbA hS (z_sc hi hL (n := 2) (by decide) (by decide)) dL_law_638 ?_
  refine zi a2 ea2.symm ?_
  refine z_iL (wa := wx) (wb := wm) (va_runV (As := [.int a1, .int a2]) (rest := []) ⟨hx, hb, hml, hown, hts⟩ (wX10_tick l dC dI kA _ x0 a1 a2 hX0 hgd hxt) (cwV 2 hts gL_law_X10_tick rfl rfl rfl ⟨rfl, hdX10_tick⟩ ⟨(Nat.le_of_ble_eq_true rfl), (Nat.le_of_ble_eq_true rfl)⟩) ⟨zPc.blind, XOK_rec hK hX0 hP, zPre hK (wl_P hP) (wl_D hD)⟩ rfl rfl hl.1 rfl (lv_room (Nat.le_of_ble_eq_true rfl)) dL_law_639 ⟨hc1, hs1⟩) hP hD hS hA (fun r1 w1 H locs hw1 hP hD hS => ?_)
  refine lv_pop hx hb dL_law_642 rfl ?_
  refine lv_aload_n hx hb dL_law_643 rfl (lv_at hl 1 rfl) ?_
  refine lv_aload_n hx hb dL_law_644 rfl (lv_at hl 3 rfl) ?_
  refine lv_iload_n hx hb dL_law_645 rfl (lv_at hl 0 rfl) ?_
  refine lv_iconst (v := 1) hx hb dL_law_646 (by decide) ?_
  refine lv_iadd hx hb dL_law_647 ?_
  refine va_sld hx hb hX hbl hbA hS (z_sc hi hL (n := 1) (by decide) (by decide)) dL_law_648 ?_
  refine zi a1 ea1.symm ?_
  refine lv_aload_n hx hb dL_law_649 rfl (lv_at hl 3 rfl) ?_
  refine lv_iload_n hx hb dL_law_650 rfl (lv_at hl 0 rfl) ?_
  refine lv_iconst (v := 2) hx hb dL_law_651 (by decide) ?_
  refine lv_iadd hx hb dL_law_652 ?_
  refine va_sld hx hb hX hbl hbA hS (z_sc hi hL (n := 2) (by decide) (by decide)) dL_law_653 ?_
  refine zi a2 ea2.symm ?_
  refine z_iL (wa := wm) (wb := w1) (va_runV (As := [.int a1, .int a2]) (rest := []) ⟨hx, hb, hml, hown, hts⟩ (wX11_tick l dC dI kA _ n0 a1 a2 hM0) (cwV 2 hts gL_law_X11_tick rfl rfl rfl ⟨rfl, hdX11_tick⟩ ⟨(Nat.le_of_ble_eq_true rfl), (Nat.le_of_ble_eq_true rfl)⟩) ⟨zPc.blind, MOK_rec hK hM0 (wp_P hP List.perm_append_comm), zPre hK (wl_P (wp_P hP List.perm_append_comm)) (wl_D (wp_D hD List.perm_append_comm))⟩ rfl rfl hl.1 rfl (lv_room (Nat.le_of_ble_eq_true rfl)) dL_law_654 ⟨hc2, hs2⟩) (wp_P hP List.perm_append_comm) (wp_D hD List.perm_append_comm) hS hA (fun r2 w2 H locs hw2 hP hD hS => ?_)
  have hP := wp_P hP (List.perm_append_comm)
  have hD := wp_D hD (List.perm_append_comm)
  refine lv_pop hx hb dL_law_657 rfl ?_
  refine lv_goto (tgt := 1730) hx hb dL_law_658 (by decide) ?_
  refine W.widen (k := cells + 40) (n := slots + 2000) (by omega) (by omega) ?_
  exact kk w1 w2 H locs ls ⟨_, _, _, hw1.2, hw2.2⟩ hP hD hS hl
set_option maxHeartbeats 4000000 in
set_option maxRecDepth 100000 in
theorem law_c13 {p : Program} {l : Launch} {e : Env} {s : State} {m : MethodId} {below : List Frame} {meth : Method} {c : Code} {b L : Nat} {xs : Nat → Int32} {dC : Nat → ClassId} {dI : Nat → Nat → Nat} {kA : Nat → ClassId} {aS vS : Nat} {oS : Option Nat} {x0 n0 : Nat} (C0 : lw_At p s m meth c b L xs) (hL : L ≤ 5120) (hK : zK dC dI kA s) (hZ : zStr aS vS oS (fun q : Nat => s.heap.size ≤ q) s s.heap) {i : Int32} (hi : 0 ≤ i.toInt ∧ i.toInt + 10 ≤ L) {cells slots : Nat} (hc : cells + 40 ≤ 600000) (hs : slots + 2000 ≤ 7302249) (kk : ∀ (wx wm : va_W) (H : Heap) (locs : List Loc) (ls : Array Slot), LInv kA x0 n0 wx wm → va_P (dC, dI) vwCl (wx ++ wm) H → va_D (fun q : Nat => s.heap.size ≤ q) (wx ++ wm) → va_S (fun q : Nat => s.heap.size ≤ q) s.heap H locs → lv_has ls 4 [(3, .int i), (2, .ref n0), (1, .ref x0), (0, .ref b)] → W p l e room_1 s m #[Value.ref b] below meth c H locs (cells + 40) (slots + 2000) (lw_Z below #[Value.ref b] s) (F0 m 1730 ls [])) (wx wm : va_W) (H : Heap) (locs : List Loc) (ls : Array Slot) (hI : LInv kA x0 n0 wx wm) (hP : va_P (dC, dI) vwCl (wx ++ wm) H) (hD : va_D (fun q : Nat => s.heap.size ≤ q) (wx ++ wm)) (hS : va_S (fun q : Nat => s.heap.size ≤ q) s.heap H locs) (hl : lv_has ls 4 [(3, .int i), (2, .ref n0), (1, .ref x0), (0, .ref b)]) : W p l e room_1 s m #[Value.ref b] below meth c H locs cells slots (lw_Z below #[Value.ref b] s) (F0 m 661 ls []) := by
  obtain ⟨hx, hb, hr, hml, hown0, hts0, hX, hbl, hlocks, hgv⟩ := C0
  have hown : s.vm.findClass RL = some m.cls := hown0
  have hts : ∀ w ∈ wsL_law, w.before #[Value.ref b] s = true := fun w h => hts0 w (wsL_law_in w h)
  have hA : ∀ q : Nat, s.heap.size ≤ q → (fun q : Nat => s.heap.size ≤ q) q := fun _ h => h
  have hbA : ¬ (fun q : Nat => s.heap.size ≤ q) b := Nat.not_le.mpr hbl
  obtain ⟨S_, LL, im, hX0, hM0⟩ := hI
  have hgd := MOK4_gd hM0
  have hxt := MOK4_xt hM0
  have hgr := MOK4_gr hM0
  have hgx := MOK4_gx hM0
  have hc1 : cells + 20 ≤ room_1.cells := by show cells + 20 ≤ 600000; omega
  have hs1 : slots + 1000 ≤ room_1.slots := by show slots + 1000 ≤ 7302249; omega
  have hc2 : cells + 20 + 20 ≤ room_1.cells := by show cells + 20 + 20 ≤ 600000; omega
  have hs2 : slots + 1000 + 1000 ≤ room_1.slots := by show slots + 1000 + 1000 ≤ 7302249; omega
  obtain ⟨a1, ea1⟩ : ∃ y : Int32, y = xs (i + 1).toNatClampNeg := ⟨_, rfl⟩
  obtain ⟨a2, ea2⟩ : ∃ y : Int32, y = xs (i + 2).toNatClampNeg := ⟨_, rfl⟩
  refine lv_aload_n hx hb dL_law_661 rfl (lv_at hl 2 rfl) ?_
  refine lv_aload_n hx hb dL_law_662 rfl (lv_at hl 3 rfl) ?_
  refine lv_iload_n hx hb dL_law_663 rfl (lv_at hl 0 rfl) ?_
  refine lv_iconst (v := 1) hx hb dL_law_664 (by decide) ?_
  refine lv_iadd hx hb dL_law_665 ?_
  refine va_sld hx hb hX hbl hbA hS (z_sc hi hL (n := 1) (by decide) (by decide)) dL_law_666 ?_
  refine zi a1 ea1.symm ?_
  refine lv_aload_n hx hb dL_law_667 rfl (lv_at hl 3 rfl) ?_
  refine lv_iload_n hx hb dL_law_668 rfl (lv_at hl 0 rfl) ?_
  refine lv_iconst (v := 2) hx hb dL_law_669 (by decide) ?_
  refine lv_iadd hx hb dL_law_670 ?_
  refine va_sld hx hb hX hbl hbA hS (z_sc hi hL (n := 2) (by decide) (by decide)) dL_law_671 ?_
  refine zi a2 ea2.symm ?_
  refine z_iL (wa := wx) (wb := wm) (va_runV (As := [.int a1, .int a2]) (rest := []) ⟨hx, hb, hml, hown, hts⟩ (wX10_at l dC dI kA _ x0 a1 a2 hX0 hgd hxt) (cwV 2 hts gL_law_X10_at rfl rfl rfl ⟨rfl, hdX10_at⟩ ⟨(Nat.le_of_ble_eq_true rfl), (Nat.le_of_ble_eq_true rfl)⟩) ⟨zPc.blind, XOK_rec hK hX0 hP, zPre hK (wl_P hP) (wl_D hD)⟩ rfl rfl hl.1 rfl (lv_room (Nat.le_of_ble_eq_true rfl)) dL_law_672 ⟨hc1, hs1⟩) hP hD hS hA (fun r1 w1 H locs hw1 hP hD hS => ?_)
  refine lv_pop hx hb dL_law_675 rfl ?_
  refine lv_aload_n hx hb dL_law_676 rfl (lv_at hl 1 rfl) ?_
  refine lv_aload_n hx hb dL_law_677 rfl (lv_at hl 3 rfl) ?_
  refine lv_iload_n hx hb dL_law_678 rfl (lv_at hl 0 rfl) ?_
  refine lv_iconst (v := 1) hx hb dL_law_679 (by decide) ?_
  refine lv_iadd hx hb dL_law_680 ?_
  refine va_sld hx hb hX hbl hbA hS (z_sc hi hL (n := 1) (by decide) (by decide)) dL_law_681 ?_
  refine zi a1 ea1.symm ?_
  refine lv_aload_n hx hb dL_law_682 rfl (lv_at hl 3 rfl) ?_
  refine lv_iload_n hx hb dL_law_683 rfl (lv_at hl 0 rfl) ?_
  refine lv_iconst (v := 2) hx hb dL_law_684 (by decide) ?_
  refine lv_iadd hx hb dL_law_685 ?_
  refine va_sld hx hb hX hbl hbA hS (z_sc hi hL (n := 2) (by decide) (by decide)) dL_law_686 ?_
  refine zi a2 ea2.symm ?_
  refine z_iL (wa := wm) (wb := w1) (va_runV (As := [.int a1, .int a2]) (rest := []) ⟨hx, hb, hml, hown, hts⟩ (wX11_at l dC dI kA _ n0 a1 a2 hM0) (cwV 2 hts gL_law_X11_at rfl rfl rfl ⟨rfl, hdX11_at⟩ ⟨(Nat.le_of_ble_eq_true rfl), (Nat.le_of_ble_eq_true rfl)⟩) ⟨zPc.blind, MOK_rec hK hM0 (wp_P hP List.perm_append_comm), zPre hK (wl_P (wp_P hP List.perm_append_comm)) (wl_D (wp_D hD List.perm_append_comm))⟩ rfl rfl hl.1 rfl (lv_room (Nat.le_of_ble_eq_true rfl)) dL_law_687 ⟨hc2, hs2⟩) (wp_P hP List.perm_append_comm) (wp_D hD List.perm_append_comm) hS hA (fun r2 w2 H locs hw2 hP hD hS => ?_)
  have hP := wp_P hP (List.perm_append_comm)
  have hD := wp_D hD (List.perm_append_comm)
  refine lv_pop hx hb dL_law_690 rfl ?_
  refine lv_goto (tgt := 1730) hx hb dL_law_691 (by decide) ?_
  refine W.widen (k := cells + 40) (n := slots + 2000) (by omega) (by omega) ?_
  exact kk w1 w2 H locs ls ⟨_, _, _, hw1.2, hw2.2⟩ hP hD hS hl
set_option maxHeartbeats 4000000 in
set_option maxRecDepth 100000 in
theorem law_c14 {p : Program} {l : Launch} {e : Env} {s : State} {m : MethodId} {below : List Frame} {meth : Method} {c : Code} {b L : Nat} {xs : Nat → Int32} {dC : Nat → ClassId} {dI : Nat → Nat → Nat} {kA : Nat → ClassId} {aS vS : Nat} {oS : Option Nat} {x0 n0 : Nat} (C0 : lw_At p s m meth c b L xs) (hL : L ≤ 5120) (hK : zK dC dI kA s) (hZ : zStr aS vS oS (fun q : Nat => s.heap.size ≤ q) s s.heap) {i : Int32} (hi : 0 ≤ i.toInt ∧ i.toInt + 10 ≤ L) {cells slots : Nat} (hc : cells + 40 ≤ 600000) (hs : slots + 2000 ≤ 7302249) (kk : ∀ (wx wm : va_W) (H : Heap) (locs : List Loc) (ls : Array Slot), LInv kA x0 n0 wx wm → va_P (dC, dI) vwCl (wx ++ wm) H → va_D (fun q : Nat => s.heap.size ≤ q) (wx ++ wm) → va_S (fun q : Nat => s.heap.size ≤ q) s.heap H locs → lv_has ls 4 [(3, .int i), (2, .ref n0), (1, .ref x0), (0, .ref b)] → W p l e room_1 s m #[Value.ref b] below meth c H locs (cells + 40) (slots + 2000) (lw_Z below #[Value.ref b] s) (F0 m 1730 ls [])) (wx wm : va_W) (H : Heap) (locs : List Loc) (ls : Array Slot) (hI : LInv kA x0 n0 wx wm) (hP : va_P (dC, dI) vwCl (wx ++ wm) H) (hD : va_D (fun q : Nat => s.heap.size ≤ q) (wx ++ wm)) (hS : va_S (fun q : Nat => s.heap.size ≤ q) s.heap H locs) (hl : lv_has ls 4 [(3, .int i), (2, .ref n0), (1, .ref x0), (0, .ref b)]) : W p l e room_1 s m #[Value.ref b] below meth c H locs cells slots (lw_Z below #[Value.ref b] s) (F0 m 694 ls []) := by
  obtain ⟨hx, hb, hr, hml, hown0, hts0, hX, hbl, hlocks, hgv⟩ := C0
  have hown : s.vm.findClass RL = some m.cls := hown0
  have hts : ∀ w ∈ wsL_law, w.before #[Value.ref b] s = true := fun w h => hts0 w (wsL_law_in w h)
  have hA : ∀ q : Nat, s.heap.size ≤ q → (fun q : Nat => s.heap.size ≤ q) q := fun _ h => h
  have hbA : ¬ (fun q : Nat => s.heap.size ≤ q) b := Nat.not_le.mpr hbl
  obtain ⟨S_, LL, im, hX0, hM0⟩ := hI
  have hgd := MOK4_gd hM0
  have hxt := MOK4_xt hM0
  have hgr := MOK4_gr hM0
  have hgx := MOK4_gx hM0
  have hc1 : cells + 20 ≤ room_1.cells := by show cells + 20 ≤ 600000; omega
  have hs1 : slots + 1000 ≤ room_1.slots := by show slots + 1000 ≤ 7302249; omega
  have hc2 : cells + 20 + 20 ≤ room_1.cells := by show cells + 20 + 20 ≤ 600000; omega
  have hs2 : slots + 1000 + 1000 ≤ room_1.slots := by show slots + 1000 + 1000 ≤ 7302249; omega
  obtain ⟨a1, ea1⟩ : ∃ y : Int32, y = xs (i + 1).toNatClampNeg := ⟨_, rfl⟩
  obtain ⟨a2, ea2⟩ : ∃ y : Int32, y = xs (i + 2).toNatClampNeg := ⟨_, rfl⟩
  refine lv_aload_n hx hb dL_law_694 rfl (lv_at hl 2 rfl) ?_
  refine lv_aload_n hx hb dL_law_695 rfl (lv_at hl 3 rfl) ?_
  refine lv_iload_n hx hb dL_law_696 rfl (lv_at hl 0 rfl) ?_
  refine lv_iconst (v := 1) hx hb dL_law_697 (by decide) ?_
  refine lv_iadd hx hb dL_law_698 ?_
  refine va_sld hx hb hX hbl hbA hS (z_sc hi hL (n := 1) (by decide) (by decide)) dL_law_699 ?_
  refine zi a1 ea1.symm ?_
  refine lv_aload_n hx hb dL_law_700 rfl (lv_at hl 3 rfl) ?_
  refine lv_iload_n hx hb dL_law_701 rfl (lv_at hl 0 rfl) ?_
  refine lv_iconst (v := 2) hx hb dL_law_702 (by decide) ?_
  refine lv_iadd hx hb dL_law_703 ?_
  refine va_sld hx hb hX hbl hbA hS (z_sc hi hL (n := 2) (by decide) (by decide)) dL_law_704 ?_
  refine zi a2 ea2.symm ?_
  refine z_iL (wa := wx) (wb := wm) (va_runV (As := [.int a1, .int a2]) (rest := []) ⟨hx, hb, hml, hown, hts⟩ (wX10_of l dC dI kA _ x0 a1 a2 hX0 hgd hxt) (cwV 2 hts gL_law_X10_of rfl rfl rfl ⟨rfl, hdX10_of⟩ ⟨(Nat.le_of_ble_eq_true rfl), (Nat.le_of_ble_eq_true rfl)⟩) ⟨zPc.blind, XOK_rec hK hX0 hP, zPre hK (wl_P hP) (wl_D hD)⟩ rfl rfl hl.1 rfl (lv_room (Nat.le_of_ble_eq_true rfl)) dL_law_705 ⟨hc1, hs1⟩) hP hD hS hA (fun r1 w1 H locs hw1 hP hD hS => ?_)
  refine lv_pop hx hb dL_law_708 rfl ?_
  refine lv_aload_n hx hb dL_law_709 rfl (lv_at hl 1 rfl) ?_
  refine lv_aload_n hx hb dL_law_710 rfl (lv_at hl 3 rfl) ?_
  refine lv_iload_n hx hb dL_law_711 rfl (lv_at hl 0 rfl) ?_
  refine lv_iconst (v := 1) hx hb dL_law_712 (by decide) ?_
  refine lv_iadd hx hb dL_law_713 ?_
  refine va_sld hx hb hX hbl hbA hS (z_sc hi hL (n := 1) (by decide) (by decide)) dL_law_714 ?_
  refine zi a1 ea1.symm ?_
  refine lv_aload_n hx hb dL_law_715 rfl (lv_at hl 3 rfl) ?_
  refine lv_iload_n hx hb dL_law_716 rfl (lv_at hl 0 rfl) ?_
  refine lv_iconst (v := 2) hx hb dL_law_717 (by decide) ?_
  refine lv_iadd hx hb dL_law_718 ?_
  refine va_sld hx hb hX hbl hbA hS (z_sc hi hL (n := 2) (by decide) (by decide)) dL_law_719 ?_
  refine zi a2 ea2.symm ?_
  refine z_iL (wa := wm) (wb := w1) (va_runV (As := [.int a1, .int a2]) (rest := []) ⟨hx, hb, hml, hown, hts⟩ (wX11_of l dC dI kA _ n0 a1 a2 hM0) (cwV 2 hts gL_law_X11_of rfl rfl rfl ⟨rfl, hdX11_of⟩ ⟨(Nat.le_of_ble_eq_true rfl), (Nat.le_of_ble_eq_true rfl)⟩) ⟨zPc.blind, MOK_rec hK hM0 (wp_P hP List.perm_append_comm), zPre hK (wl_P (wp_P hP List.perm_append_comm)) (wl_D (wp_D hD List.perm_append_comm))⟩ rfl rfl hl.1 rfl (lv_room (Nat.le_of_ble_eq_true rfl)) dL_law_720 ⟨hc2, hs2⟩) (wp_P hP List.perm_append_comm) (wp_D hD List.perm_append_comm) hS hA (fun r2 w2 H locs hw2 hP hD hS => ?_)
  have hP := wp_P hP (List.perm_append_comm)
  have hD := wp_D hD (List.perm_append_comm)
  refine lv_pop hx hb dL_law_723 rfl ?_
  refine lv_goto (tgt := 1730) hx hb dL_law_724 (by decide) ?_
  refine W.widen (k := cells + 40) (n := slots + 2000) (by omega) (by omega) ?_
  exact kk w1 w2 H locs ls ⟨_, _, _, hw1.2, hw2.2⟩ hP hD hS hl
set_option maxHeartbeats 4000000 in
set_option maxRecDepth 100000 in
theorem law_c15 {p : Program} {l : Launch} {e : Env} {s : State} {m : MethodId} {below : List Frame} {meth : Method} {c : Code} {b L : Nat} {xs : Nat → Int32} {dC : Nat → ClassId} {dI : Nat → Nat → Nat} {kA : Nat → ClassId} {aS vS : Nat} {oS : Option Nat} {x0 n0 : Nat} (C0 : lw_At p s m meth c b L xs) (hL : L ≤ 5120) (hK : zK dC dI kA s) (hZ : zStr aS vS oS (fun q : Nat => s.heap.size ≤ q) s s.heap) {i : Int32} (hi : 0 ≤ i.toInt ∧ i.toInt + 10 ≤ L) {cells slots : Nat} (hc : cells + 40 ≤ 600000) (hs : slots + 2000 ≤ 7302249) (kk : ∀ (wx wm : va_W) (H : Heap) (locs : List Loc) (ls : Array Slot), LInv kA x0 n0 wx wm → va_P (dC, dI) vwCl (wx ++ wm) H → va_D (fun q : Nat => s.heap.size ≤ q) (wx ++ wm) → va_S (fun q : Nat => s.heap.size ≤ q) s.heap H locs → lv_has ls 4 [(3, .int i), (2, .ref n0), (1, .ref x0), (0, .ref b)] → W p l e room_1 s m #[Value.ref b] below meth c H locs (cells + 40) (slots + 2000) (lw_Z below #[Value.ref b] s) (F0 m 1730 ls [])) (wx wm : va_W) (H : Heap) (locs : List Loc) (ls : Array Slot) (hI : LInv kA x0 n0 wx wm) (hP : va_P (dC, dI) vwCl (wx ++ wm) H) (hD : va_D (fun q : Nat => s.heap.size ≤ q) (wx ++ wm)) (hS : va_S (fun q : Nat => s.heap.size ≤ q) s.heap H locs) (hl : lv_has ls 4 [(3, .int i), (2, .ref n0), (1, .ref x0), (0, .ref b)]) : W p l e room_1 s m #[Value.ref b] below meth c H locs cells slots (lw_Z below #[Value.ref b] s) (F0 m 727 ls []) := by
  obtain ⟨hx, hb, hr, hml, hown0, hts0, hX, hbl, hlocks, hgv⟩ := C0
  have hown : s.vm.findClass RL = some m.cls := hown0
  have hts : ∀ w ∈ wsL_law, w.before #[Value.ref b] s = true := fun w h => hts0 w (wsL_law_in w h)
  have hA : ∀ q : Nat, s.heap.size ≤ q → (fun q : Nat => s.heap.size ≤ q) q := fun _ h => h
  have hbA : ¬ (fun q : Nat => s.heap.size ≤ q) b := Nat.not_le.mpr hbl
  obtain ⟨S_, LL, im, hX0, hM0⟩ := hI
  have hgd := MOK4_gd hM0
  have hxt := MOK4_xt hM0
  have hgr := MOK4_gr hM0
  have hgx := MOK4_gx hM0
  have hc1 : cells + 20 ≤ room_1.cells := by show cells + 20 ≤ 600000; omega
  have hs1 : slots + 1000 ≤ room_1.slots := by show slots + 1000 ≤ 7302249; omega
  have hc2 : cells + 20 + 20 ≤ room_1.cells := by show cells + 20 + 20 ≤ 600000; omega
  have hs2 : slots + 1000 + 1000 ≤ room_1.slots := by show slots + 1000 + 1000 ≤ 7302249; omega
  obtain ⟨a1, ea1⟩ : ∃ y : Int32, y = xs (i + 1).toNatClampNeg := ⟨_, rfl⟩
  obtain ⟨a2, ea2⟩ : ∃ y : Int32, y = xs (i + 2).toNatClampNeg := ⟨_, rfl⟩
  refine lv_aload_n hx hb dL_law_727 rfl (lv_at hl 2 rfl) ?_
  refine lv_aload_n hx hb dL_law_728 rfl (lv_at hl 3 rfl) ?_
  refine lv_iload_n hx hb dL_law_729 rfl (lv_at hl 0 rfl) ?_
  refine lv_iconst (v := 1) hx hb dL_law_730 (by decide) ?_
  refine lv_iadd hx hb dL_law_731 ?_
  refine va_sld hx hb hX hbl hbA hS (z_sc hi hL (n := 1) (by decide) (by decide)) dL_law_732 ?_
  refine zi a1 ea1.symm ?_
  refine lv_aload_n hx hb dL_law_733 rfl (lv_at hl 3 rfl) ?_
  refine lv_iload_n hx hb dL_law_734 rfl (lv_at hl 0 rfl) ?_
  refine lv_iconst (v := 2) hx hb dL_law_735 (by decide) ?_
  refine lv_iadd hx hb dL_law_736 ?_
  refine va_sld hx hb hX hbl hbA hS (z_sc hi hL (n := 2) (by decide) (by decide)) dL_law_737 ?_
  refine zi a2 ea2.symm ?_
  refine z_iL (wa := wx) (wb := wm) (va_runV (As := [.int a1, .int a2]) (rest := []) ⟨hx, hb, hml, hown, hts⟩ (wX10_melt l dC dI kA _ x0 a1 a2 hX0 hgd hxt) (cwV 2 hts gL_law_X10_melt rfl rfl rfl ⟨rfl, hdX10_melt⟩ ⟨(Nat.le_of_ble_eq_true rfl), (Nat.le_of_ble_eq_true rfl)⟩) ⟨zPc.blind, XOK_rec hK hX0 hP, zPre hK (wl_P hP) (wl_D hD)⟩ rfl rfl hl.1 rfl (lv_room (Nat.le_of_ble_eq_true rfl)) dL_law_738 ⟨hc1, hs1⟩) hP hD hS hA (fun r1 w1 H locs hw1 hP hD hS => ?_)
  refine lv_pop hx hb dL_law_741 rfl ?_
  refine lv_aload_n hx hb dL_law_742 rfl (lv_at hl 1 rfl) ?_
  refine lv_aload_n hx hb dL_law_743 rfl (lv_at hl 3 rfl) ?_
  refine lv_iload_n hx hb dL_law_744 rfl (lv_at hl 0 rfl) ?_
  refine lv_iconst (v := 1) hx hb dL_law_745 (by decide) ?_
  refine lv_iadd hx hb dL_law_746 ?_
  refine va_sld hx hb hX hbl hbA hS (z_sc hi hL (n := 1) (by decide) (by decide)) dL_law_747 ?_
  refine zi a1 ea1.symm ?_
  refine lv_aload_n hx hb dL_law_748 rfl (lv_at hl 3 rfl) ?_
  refine lv_iload_n hx hb dL_law_749 rfl (lv_at hl 0 rfl) ?_
  refine lv_iconst (v := 2) hx hb dL_law_750 (by decide) ?_
  refine lv_iadd hx hb dL_law_751 ?_
  refine va_sld hx hb hX hbl hbA hS (z_sc hi hL (n := 2) (by decide) (by decide)) dL_law_752 ?_
  refine zi a2 ea2.symm ?_
  refine z_iL (wa := wm) (wb := w1) (va_runV (As := [.int a1, .int a2]) (rest := []) ⟨hx, hb, hml, hown, hts⟩ (wX11_melt l dC dI kA _ n0 a1 a2 hM0) (cwV 2 hts gL_law_X11_melt rfl rfl rfl ⟨rfl, hdX11_melt⟩ ⟨(Nat.le_of_ble_eq_true rfl), (Nat.le_of_ble_eq_true rfl)⟩) ⟨zPc.blind, MOK_rec hK hM0 (wp_P hP List.perm_append_comm), zPre hK (wl_P (wp_P hP List.perm_append_comm)) (wl_D (wp_D hD List.perm_append_comm))⟩ rfl rfl hl.1 rfl (lv_room (Nat.le_of_ble_eq_true rfl)) dL_law_753 ⟨hc2, hs2⟩) (wp_P hP List.perm_append_comm) (wp_D hD List.perm_append_comm) hS hA (fun r2 w2 H locs hw2 hP hD hS => ?_)
  have hP := wp_P hP (List.perm_append_comm)
  have hD := wp_D hD (List.perm_append_comm)
  refine lv_pop hx hb dL_law_756 rfl ?_
  refine lv_goto (tgt := 1730) hx hb dL_law_757 (by decide) ?_
  refine W.widen (k := cells + 40) (n := slots + 2000) (by omega) (by omega) ?_
  exact kk w1 w2 H locs ls ⟨_, _, _, hw1.2, hw2.2⟩ hP hD hS hl
set_option maxHeartbeats 4000000 in
set_option maxRecDepth 100000 in
theorem law_c16 {p : Program} {l : Launch} {e : Env} {s : State} {m : MethodId} {below : List Frame} {meth : Method} {c : Code} {b L : Nat} {xs : Nat → Int32} {dC : Nat → ClassId} {dI : Nat → Nat → Nat} {kA : Nat → ClassId} {aS vS : Nat} {oS : Option Nat} {x0 n0 : Nat} (C0 : lw_At p s m meth c b L xs) (hL : L ≤ 5120) (hK : zK dC dI kA s) (hZ : zStr aS vS oS (fun q : Nat => s.heap.size ≤ q) s s.heap) {i : Int32} (hi : 0 ≤ i.toInt ∧ i.toInt + 10 ≤ L) {cells slots : Nat} (hc : cells + 40 ≤ 600000) (hs : slots + 2000 ≤ 7302249) (kk : ∀ (wx wm : va_W) (H : Heap) (locs : List Loc) (ls : Array Slot), LInv kA x0 n0 wx wm → va_P (dC, dI) vwCl (wx ++ wm) H → va_D (fun q : Nat => s.heap.size ≤ q) (wx ++ wm) → va_S (fun q : Nat => s.heap.size ≤ q) s.heap H locs → lv_has ls 4 [(3, .int i), (2, .ref n0), (1, .ref x0), (0, .ref b)] → W p l e room_1 s m #[Value.ref b] below meth c H locs (cells + 40) (slots + 2000) (lw_Z below #[Value.ref b] s) (F0 m 1730 ls [])) (wx wm : va_W) (H : Heap) (locs : List Loc) (ls : Array Slot) (hI : LInv kA x0 n0 wx wm) (hP : va_P (dC, dI) vwCl (wx ++ wm) H) (hD : va_D (fun q : Nat => s.heap.size ≤ q) (wx ++ wm)) (hS : va_S (fun q : Nat => s.heap.size ≤ q) s.heap H locs) (hl : lv_has ls 4 [(3, .int i), (2, .ref n0), (1, .ref x0), (0, .ref b)]) : W p l e room_1 s m #[Value.ref b] below meth c H locs cells slots (lw_Z below #[Value.ref b] s) (F0 m 760 ls []) := by
  obtain ⟨hx, hb, hr, hml, hown0, hts0, hX, hbl, hlocks, hgv⟩ := C0
  have hown : s.vm.findClass RL = some m.cls := hown0
  have hts : ∀ w ∈ wsL_law, w.before #[Value.ref b] s = true := fun w h => hts0 w (wsL_law_in w h)
  have hA : ∀ q : Nat, s.heap.size ≤ q → (fun q : Nat => s.heap.size ≤ q) q := fun _ h => h
  have hbA : ¬ (fun q : Nat => s.heap.size ≤ q) b := Nat.not_le.mpr hbl
  obtain ⟨S_, LL, im, hX0, hM0⟩ := hI
  have hgd := MOK4_gd hM0
  have hxt := MOK4_xt hM0
  have hgr := MOK4_gr hM0
  have hgx := MOK4_gx hM0
  have hc1 : cells + 20 ≤ room_1.cells := by show cells + 20 ≤ 600000; omega
  have hs1 : slots + 1000 ≤ room_1.slots := by show slots + 1000 ≤ 7302249; omega
  have hc2 : cells + 20 + 20 ≤ room_1.cells := by show cells + 20 + 20 ≤ 600000; omega
  have hs2 : slots + 1000 + 1000 ≤ room_1.slots := by show slots + 1000 + 1000 ≤ 7302249; omega
  obtain ⟨a1, ea1⟩ : ∃ y : Int32, y = xs (i + 1).toNatClampNeg := ⟨_, rfl⟩
  refine lv_aload_n hx hb dL_law_760 rfl (lv_at hl 2 rfl) ?_
  refine lv_aload_n hx hb dL_law_761 rfl (lv_at hl 3 rfl) ?_
  refine lv_iload_n hx hb dL_law_762 rfl (lv_at hl 0 rfl) ?_
  refine lv_iconst (v := 1) hx hb dL_law_763 (by decide) ?_
  refine lv_iadd hx hb dL_law_764 ?_
  refine va_sld hx hb hX hbl hbA hS (z_sc hi hL (n := 1) (by decide) (by decide)) dL_law_765 ?_
  refine zi a1 ea1.symm ?_
  refine z_iL (wa := wx) (wb := wm) (va_runV (As := [.int a1]) (rest := []) ⟨hx, hb, hml, hown, hts⟩ (wX10_lay l dC dI kA _ x0 a1 hX0 hgd hxt) (cwV 1 hts gL_law_X10_lay rfl rfl rfl ⟨rfl, hdX10_lay⟩ ⟨(Nat.le_of_ble_eq_true rfl), (Nat.le_of_ble_eq_true rfl)⟩) ⟨zPc.blind, XOK_rec hK hX0 hP, zPre hK (wl_P hP) (wl_D hD)⟩ rfl rfl hl.1 rfl (lv_room (Nat.le_of_ble_eq_true rfl)) dL_law_766 ⟨hc1, hs1⟩) hP hD hS hA (fun r1 w1 H locs hw1 hP hD hS => ?_)
  refine lv_pop hx hb dL_law_769 rfl ?_
  refine lv_aload_n hx hb dL_law_770 rfl (lv_at hl 1 rfl) ?_
  refine lv_aload_n hx hb dL_law_771 rfl (lv_at hl 3 rfl) ?_
  refine lv_iload_n hx hb dL_law_772 rfl (lv_at hl 0 rfl) ?_
  refine lv_iconst (v := 1) hx hb dL_law_773 (by decide) ?_
  refine lv_iadd hx hb dL_law_774 ?_
  refine va_sld hx hb hX hbl hbA hS (z_sc hi hL (n := 1) (by decide) (by decide)) dL_law_775 ?_
  refine zi a1 ea1.symm ?_
  refine z_iL (wa := wm) (wb := w1) (va_runV (As := [.int a1]) (rest := []) ⟨hx, hb, hml, hown, hts⟩ (wX11_lay l dC dI kA _ n0 a1 hM0) (cwV 1 hts gL_law_X11_lay rfl rfl rfl ⟨rfl, hdX11_lay⟩ ⟨(Nat.le_of_ble_eq_true rfl), (Nat.le_of_ble_eq_true rfl)⟩) ⟨zPc.blind, MOK_rec hK hM0 (wp_P hP List.perm_append_comm), zPre hK (wl_P (wp_P hP List.perm_append_comm)) (wl_D (wp_D hD List.perm_append_comm))⟩ rfl rfl hl.1 rfl (lv_room (Nat.le_of_ble_eq_true rfl)) dL_law_776 ⟨hc2, hs2⟩) (wp_P hP List.perm_append_comm) (wp_D hD List.perm_append_comm) hS hA (fun r2 w2 H locs hw2 hP hD hS => ?_)
  have hP := wp_P hP (List.perm_append_comm)
  have hD := wp_D hD (List.perm_append_comm)
  refine lv_pop hx hb dL_law_779 rfl ?_
  refine lv_goto (tgt := 1730) hx hb dL_law_780 (by decide) ?_
  refine W.widen (k := cells + 40) (n := slots + 2000) (by omega) (by omega) ?_
  exact kk w1 w2 H locs ls ⟨_, _, _, hw1.2, hw2.2⟩ hP hD hS hl
set_option maxHeartbeats 4000000 in
set_option maxRecDepth 100000 in
theorem law_c17 {p : Program} {l : Launch} {e : Env} {s : State} {m : MethodId} {below : List Frame} {meth : Method} {c : Code} {b L : Nat} {xs : Nat → Int32} {dC : Nat → ClassId} {dI : Nat → Nat → Nat} {kA : Nat → ClassId} {aS vS : Nat} {oS : Option Nat} {x0 n0 : Nat} (C0 : lw_At p s m meth c b L xs) (hL : L ≤ 5120) (hK : zK dC dI kA s) (hZ : zStr aS vS oS (fun q : Nat => s.heap.size ≤ q) s s.heap) {i : Int32} (hi : 0 ≤ i.toInt ∧ i.toInt + 10 ≤ L) {cells slots : Nat} (hc : cells + 40 ≤ 600000) (hs : slots + 2000 ≤ 7302249) (kk : ∀ (wx wm : va_W) (H : Heap) (locs : List Loc) (ls : Array Slot), LInv kA x0 n0 wx wm → va_P (dC, dI) vwCl (wx ++ wm) H → va_D (fun q : Nat => s.heap.size ≤ q) (wx ++ wm) → va_S (fun q : Nat => s.heap.size ≤ q) s.heap H locs → lv_has ls 4 [(3, .int i), (2, .ref n0), (1, .ref x0), (0, .ref b)] → W p l e room_1 s m #[Value.ref b] below meth c H locs (cells + 40) (slots + 2000) (lw_Z below #[Value.ref b] s) (F0 m 1730 ls [])) (wx wm : va_W) (H : Heap) (locs : List Loc) (ls : Array Slot) (hI : LInv kA x0 n0 wx wm) (hP : va_P (dC, dI) vwCl (wx ++ wm) H) (hD : va_D (fun q : Nat => s.heap.size ≤ q) (wx ++ wm)) (hS : va_S (fun q : Nat => s.heap.size ≤ q) s.heap H locs) (hl : lv_has ls 4 [(3, .int i), (2, .ref n0), (1, .ref x0), (0, .ref b)]) : W p l e room_1 s m #[Value.ref b] below meth c H locs cells slots (lw_Z below #[Value.ref b] s) (F0 m 783 ls []) := by
  obtain ⟨hx, hb, hr, hml, hown0, hts0, hX, hbl, hlocks, hgv⟩ := C0
  have hown : s.vm.findClass RL = some m.cls := hown0
  have hts : ∀ w ∈ wsL_law, w.before #[Value.ref b] s = true := fun w h => hts0 w (wsL_law_in w h)
  have hA : ∀ q : Nat, s.heap.size ≤ q → (fun q : Nat => s.heap.size ≤ q) q := fun _ h => h
  have hbA : ¬ (fun q : Nat => s.heap.size ≤ q) b := Nat.not_le.mpr hbl
  obtain ⟨S_, LL, im, hX0, hM0⟩ := hI
  have hgd := MOK4_gd hM0
  have hxt := MOK4_xt hM0
  have hgr := MOK4_gr hM0
  have hgx := MOK4_gx hM0
  have hc1 : cells + 20 ≤ room_1.cells := by show cells + 20 ≤ 600000; omega
  have hs1 : slots + 1000 ≤ room_1.slots := by show slots + 1000 ≤ 7302249; omega
  have hc2 : cells + 20 + 20 ≤ room_1.cells := by show cells + 20 + 20 ≤ 600000; omega
  have hs2 : slots + 1000 + 1000 ≤ room_1.slots := by show slots + 1000 + 1000 ≤ 7302249; omega
  obtain ⟨a1, ea1⟩ : ∃ y : Int32, y = xs (i + 1).toNatClampNeg := ⟨_, rfl⟩
  refine lv_aload_n hx hb dL_law_783 rfl (lv_at hl 2 rfl) ?_
  refine lv_aload_n hx hb dL_law_784 rfl (lv_at hl 3 rfl) ?_
  refine lv_iload_n hx hb dL_law_785 rfl (lv_at hl 0 rfl) ?_
  refine lv_iconst (v := 1) hx hb dL_law_786 (by decide) ?_
  refine lv_iadd hx hb dL_law_787 ?_
  refine va_sld hx hb hX hbl hbA hS (z_sc hi hL (n := 1) (by decide) (by decide)) dL_law_788 ?_
  refine zi a1 ea1.symm ?_
  refine z_iL (wa := wx) (wb := wm) (va_runV (As := [.int a1]) (rest := []) ⟨hx, hb, hml, hown, hts⟩ (wX10_from l dC dI kA _ x0 a1 hX0 hgd hxt) (cwV 1 hts gL_law_X10_from rfl rfl rfl ⟨rfl, hdX10_from⟩ ⟨(Nat.le_of_ble_eq_true rfl), (Nat.le_of_ble_eq_true rfl)⟩) ⟨zPc.blind, XOK_rec hK hX0 hP, zPre hK (wl_P hP) (wl_D hD)⟩ rfl rfl hl.1 rfl (lv_room (Nat.le_of_ble_eq_true rfl)) dL_law_789 ⟨hc1, hs1⟩) hP hD hS hA (fun r1 w1 H locs hw1 hP hD hS => ?_)
  refine lv_pop hx hb dL_law_792 rfl ?_
  refine lv_aload_n hx hb dL_law_793 rfl (lv_at hl 1 rfl) ?_
  refine lv_aload_n hx hb dL_law_794 rfl (lv_at hl 3 rfl) ?_
  refine lv_iload_n hx hb dL_law_795 rfl (lv_at hl 0 rfl) ?_
  refine lv_iconst (v := 1) hx hb dL_law_796 (by decide) ?_
  refine lv_iadd hx hb dL_law_797 ?_
  refine va_sld hx hb hX hbl hbA hS (z_sc hi hL (n := 1) (by decide) (by decide)) dL_law_798 ?_
  refine zi a1 ea1.symm ?_
  refine z_iL (wa := wm) (wb := w1) (va_runV (As := [.int a1]) (rest := []) ⟨hx, hb, hml, hown, hts⟩ (wX11_from l dC dI kA _ n0 a1 hM0) (cwV 1 hts gL_law_X11_from rfl rfl rfl ⟨rfl, hdX11_from⟩ ⟨(Nat.le_of_ble_eq_true rfl), (Nat.le_of_ble_eq_true rfl)⟩) ⟨zPc.blind, MOK_rec hK hM0 (wp_P hP List.perm_append_comm), zPre hK (wl_P (wp_P hP List.perm_append_comm)) (wl_D (wp_D hD List.perm_append_comm))⟩ rfl rfl hl.1 rfl (lv_room (Nat.le_of_ble_eq_true rfl)) dL_law_799 ⟨hc2, hs2⟩) (wp_P hP List.perm_append_comm) (wp_D hD List.perm_append_comm) hS hA (fun r2 w2 H locs hw2 hP hD hS => ?_)
  have hP := wp_P hP (List.perm_append_comm)
  have hD := wp_D hD (List.perm_append_comm)
  refine lv_pop hx hb dL_law_802 rfl ?_
  refine lv_goto (tgt := 1730) hx hb dL_law_803 (by decide) ?_
  refine W.widen (k := cells + 40) (n := slots + 2000) (by omega) (by omega) ?_
  exact kk w1 w2 H locs ls ⟨_, _, _, hw1.2, hw2.2⟩ hP hD hS hl
set_option maxHeartbeats 4000000 in
set_option maxRecDepth 100000 in
theorem law_c18 {p : Program} {l : Launch} {e : Env} {s : State} {m : MethodId} {below : List Frame} {meth : Method} {c : Code} {b L : Nat} {xs : Nat → Int32} {dC : Nat → ClassId} {dI : Nat → Nat → Nat} {kA : Nat → ClassId} {aS vS : Nat} {oS : Option Nat} {x0 n0 : Nat} (C0 : lw_At p s m meth c b L xs) (hL : L ≤ 5120) (hK : zK dC dI kA s) (hZ : zStr aS vS oS (fun q : Nat => s.heap.size ≤ q) s s.heap) {i : Int32} (hi : 0 ≤ i.toInt ∧ i.toInt + 10 ≤ L) {cells slots : Nat} (hc : cells + 40 ≤ 600000) (hs : slots + 2000 ≤ 7302249) (kk : ∀ (wx wm : va_W) (H : Heap) (locs : List Loc) (ls : Array Slot), LInv kA x0 n0 wx wm → va_P (dC, dI) vwCl (wx ++ wm) H → va_D (fun q : Nat => s.heap.size ≤ q) (wx ++ wm) → va_S (fun q : Nat => s.heap.size ≤ q) s.heap H locs → lv_has ls 4 [(3, .int i), (2, .ref n0), (1, .ref x0), (0, .ref b)] → W p l e room_1 s m #[Value.ref b] below meth c H locs (cells + 40) (slots + 2000) (lw_Z below #[Value.ref b] s) (F0 m 1730 ls [])) (wx wm : va_W) (H : Heap) (locs : List Loc) (ls : Array Slot) (hI : LInv kA x0 n0 wx wm) (hP : va_P (dC, dI) vwCl (wx ++ wm) H) (hD : va_D (fun q : Nat => s.heap.size ≤ q) (wx ++ wm)) (hS : va_S (fun q : Nat => s.heap.size ≤ q) s.heap H locs) (hl : lv_has ls 4 [(3, .int i), (2, .ref n0), (1, .ref x0), (0, .ref b)]) : W p l e room_1 s m #[Value.ref b] below meth c H locs cells slots (lw_Z below #[Value.ref b] s) (F0 m 806 ls []) := by
  obtain ⟨hx, hb, hr, hml, hown0, hts0, hX, hbl, hlocks, hgv⟩ := C0
  have hown : s.vm.findClass RL = some m.cls := hown0
  have hts : ∀ w ∈ wsL_law, w.before #[Value.ref b] s = true := fun w h => hts0 w (wsL_law_in w h)
  have hA : ∀ q : Nat, s.heap.size ≤ q → (fun q : Nat => s.heap.size ≤ q) q := fun _ h => h
  have hbA : ¬ (fun q : Nat => s.heap.size ≤ q) b := Nat.not_le.mpr hbl
  obtain ⟨S_, LL, im, hX0, hM0⟩ := hI
  have hgd := MOK4_gd hM0
  have hxt := MOK4_xt hM0
  have hgr := MOK4_gr hM0
  have hgx := MOK4_gx hM0
  have hc1 : cells + 20 ≤ room_1.cells := by show cells + 20 ≤ 600000; omega
  have hs1 : slots + 1000 ≤ room_1.slots := by show slots + 1000 ≤ 7302249; omega
  have hc2 : cells + 20 + 20 ≤ room_1.cells := by show cells + 20 + 20 ≤ 600000; omega
  have hs2 : slots + 1000 + 1000 ≤ room_1.slots := by show slots + 1000 + 1000 ≤ 7302249; omega
  obtain ⟨a1, ea1⟩ : ∃ y : Int32, y = xs (i + 1).toNatClampNeg := ⟨_, rfl⟩
  obtain ⟨a2, ea2⟩ : ∃ y : Int32, y = xs (i + 2).toNatClampNeg := ⟨_, rfl⟩
  obtain ⟨a3, ea3⟩ : ∃ y : Int32, y = xs (i + 3).toNatClampNeg := ⟨_, rfl⟩
  obtain ⟨a4, ea4⟩ : ∃ y : Int32, y = xs (i + 4).toNatClampNeg := ⟨_, rfl⟩
  obtain ⟨a5, ea5⟩ : ∃ y : Int32, y = xs (i + 5).toNatClampNeg := ⟨_, rfl⟩
  obtain ⟨a6, ea6⟩ : ∃ y : Int32, y = xs (i + 6).toNatClampNeg := ⟨_, rfl⟩
  refine lv_aload_n hx hb dL_law_806 rfl (lv_at hl 2 rfl) ?_
  refine lv_aload_n hx hb dL_law_807 rfl (lv_at hl 3 rfl) ?_
  refine lv_iload_n hx hb dL_law_808 rfl (lv_at hl 0 rfl) ?_
  refine lv_iconst (v := 1) hx hb dL_law_809 (by decide) ?_
  refine lv_iadd hx hb dL_law_810 ?_
  refine va_sld hx hb hX hbl hbA hS (z_sc hi hL (n := 1) (by decide) (by decide)) dL_law_811 ?_
  refine zi a1 ea1.symm ?_
  refine lv_aload_n hx hb dL_law_812 rfl (lv_at hl 3 rfl) ?_
  refine lv_iload_n hx hb dL_law_813 rfl (lv_at hl 0 rfl) ?_
  refine lv_iconst (v := 2) hx hb dL_law_814 (by decide) ?_
  refine lv_iadd hx hb dL_law_815 ?_
  refine va_sld hx hb hX hbl hbA hS (z_sc hi hL (n := 2) (by decide) (by decide)) dL_law_816 ?_
  refine zi a2 ea2.symm ?_
  refine lv_aload_n hx hb dL_law_817 rfl (lv_at hl 3 rfl) ?_
  refine lv_iload_n hx hb dL_law_818 rfl (lv_at hl 0 rfl) ?_
  refine lv_iconst (v := 3) hx hb dL_law_819 (by decide) ?_
  refine lv_iadd hx hb dL_law_820 ?_
  refine va_sld hx hb hX hbl hbA hS (z_sc hi hL (n := 3) (by decide) (by decide)) dL_law_821 ?_
  refine zi a3 ea3.symm ?_
  refine lv_aload_n hx hb dL_law_822 rfl (lv_at hl 3 rfl) ?_
  refine lv_iload_n hx hb dL_law_823 rfl (lv_at hl 0 rfl) ?_
  refine lv_iconst (v := 4) hx hb dL_law_824 (by decide) ?_
  refine lv_iadd hx hb dL_law_825 ?_
  refine va_sld hx hb hX hbl hbA hS (z_sc hi hL (n := 4) (by decide) (by decide)) dL_law_826 ?_
  refine zi a4 ea4.symm ?_
  refine lv_aload_n hx hb dL_law_827 rfl (lv_at hl 3 rfl) ?_
  refine lv_iload_n hx hb dL_law_828 rfl (lv_at hl 0 rfl) ?_
  refine lv_iconst (v := 5) hx hb dL_law_829 (by decide) ?_
  refine lv_iadd hx hb dL_law_830 ?_
  refine va_sld hx hb hX hbl hbA hS (z_sc hi hL (n := 5) (by decide) (by decide)) dL_law_831 ?_
  refine zi a5 ea5.symm ?_
  refine lv_aload_n hx hb dL_law_832 rfl (lv_at hl 3 rfl) ?_
  refine lv_iload_n hx hb dL_law_833 rfl (lv_at hl 0 rfl) ?_
  refine lv_bipush (v := 6) hx hb dL_law_834 (by decide) ?_
  refine lv_iadd hx hb dL_law_836 ?_
  refine va_sld hx hb hX hbl hbA hS (z_sc hi hL (n := 6) (by decide) (by decide)) dL_law_837 ?_
  refine zi a6 ea6.symm ?_
  refine z_iL (wa := wx) (wb := wm) (va_runV (As := [.int a1, .int a2, .int a3, .int a4, .int a5, .int a6]) (rest := []) ⟨hx, hb, hml, hown, hts⟩ (wX10_tried l dC dI kA _ x0 a1 a2 a3 a4 a5 a6 hX0 hgd hxt) (cwV 6 hts gL_law_X10_tried rfl rfl rfl ⟨rfl, hdX10_tried⟩ ⟨(Nat.le_of_ble_eq_true rfl), (Nat.le_of_ble_eq_true rfl)⟩) ⟨zPc.blind, XOK_rec hK hX0 hP, zPre hK (wl_P hP) (wl_D hD)⟩ rfl rfl hl.1 rfl (lv_room (Nat.le_of_ble_eq_true rfl)) dL_law_838 ⟨hc1, hs1⟩) hP hD hS hA (fun r1 w1 H locs hw1 hP hD hS => ?_)
  refine lv_pop hx hb dL_law_841 rfl ?_
  refine lv_aload_n hx hb dL_law_842 rfl (lv_at hl 1 rfl) ?_
  refine lv_aload_n hx hb dL_law_843 rfl (lv_at hl 3 rfl) ?_
  refine lv_iload_n hx hb dL_law_844 rfl (lv_at hl 0 rfl) ?_
  refine lv_iconst (v := 1) hx hb dL_law_845 (by decide) ?_
  refine lv_iadd hx hb dL_law_846 ?_
  refine va_sld hx hb hX hbl hbA hS (z_sc hi hL (n := 1) (by decide) (by decide)) dL_law_847 ?_
  refine zi a1 ea1.symm ?_
  refine lv_aload_n hx hb dL_law_848 rfl (lv_at hl 3 rfl) ?_
  refine lv_iload_n hx hb dL_law_849 rfl (lv_at hl 0 rfl) ?_
  refine lv_iconst (v := 2) hx hb dL_law_850 (by decide) ?_
  refine lv_iadd hx hb dL_law_851 ?_
  refine va_sld hx hb hX hbl hbA hS (z_sc hi hL (n := 2) (by decide) (by decide)) dL_law_852 ?_
  refine zi a2 ea2.symm ?_
  refine lv_aload_n hx hb dL_law_853 rfl (lv_at hl 3 rfl) ?_
  refine lv_iload_n hx hb dL_law_854 rfl (lv_at hl 0 rfl) ?_
  refine lv_iconst (v := 3) hx hb dL_law_855 (by decide) ?_
  refine lv_iadd hx hb dL_law_856 ?_
  refine va_sld hx hb hX hbl hbA hS (z_sc hi hL (n := 3) (by decide) (by decide)) dL_law_857 ?_
  refine zi a3 ea3.symm ?_
  refine lv_aload_n hx hb dL_law_858 rfl (lv_at hl 3 rfl) ?_
  refine lv_iload_n hx hb dL_law_859 rfl (lv_at hl 0 rfl) ?_
  refine lv_iconst (v := 4) hx hb dL_law_860 (by decide) ?_
  refine lv_iadd hx hb dL_law_861 ?_
  refine va_sld hx hb hX hbl hbA hS (z_sc hi hL (n := 4) (by decide) (by decide)) dL_law_862 ?_
  refine zi a4 ea4.symm ?_
  refine lv_aload_n hx hb dL_law_863 rfl (lv_at hl 3 rfl) ?_
  refine lv_iload_n hx hb dL_law_864 rfl (lv_at hl 0 rfl) ?_
  refine lv_iconst (v := 5) hx hb dL_law_865 (by decide) ?_
  refine lv_iadd hx hb dL_law_866 ?_
  refine va_sld hx hb hX hbl hbA hS (z_sc hi hL (n := 5) (by decide) (by decide)) dL_law_867 ?_
  refine zi a5 ea5.symm ?_
  refine lv_aload_n hx hb dL_law_868 rfl (lv_at hl 3 rfl) ?_
  refine lv_iload_n hx hb dL_law_869 rfl (lv_at hl 0 rfl) ?_
  refine lv_bipush (v := 6) hx hb dL_law_870 (by decide) ?_
  refine lv_iadd hx hb dL_law_872 ?_
  refine va_sld hx hb hX hbl hbA hS (z_sc hi hL (n := 6) (by decide) (by decide)) dL_law_873 ?_
  refine zi a6 ea6.symm ?_
  refine z_iL (wa := wm) (wb := w1) (va_runV (As := [.int a1, .int a2, .int a3, .int a4, .int a5, .int a6]) (rest := []) ⟨hx, hb, hml, hown, hts⟩ (wX11_tried l dC dI kA _ n0 a1 a2 a3 a4 a5 a6 hM0) (cwV 6 hts gL_law_X11_tried rfl rfl rfl ⟨rfl, hdX11_tried⟩ ⟨(Nat.le_of_ble_eq_true rfl), (Nat.le_of_ble_eq_true rfl)⟩) ⟨zPc.blind, MOK_rec hK hM0 (wp_P hP List.perm_append_comm), zPre hK (wl_P (wp_P hP List.perm_append_comm)) (wl_D (wp_D hD List.perm_append_comm))⟩ rfl rfl hl.1 rfl (lv_room (Nat.le_of_ble_eq_true rfl)) dL_law_874 ⟨hc2, hs2⟩) (wp_P hP List.perm_append_comm) (wp_D hD List.perm_append_comm) hS hA (fun r2 w2 H locs hw2 hP hD hS => ?_)
  have hP := wp_P hP (List.perm_append_comm)
  have hD := wp_D hD (List.perm_append_comm)
  refine lv_pop hx hb dL_law_877 rfl ?_
  refine lv_goto (tgt := 1730) hx hb dL_law_878 (by decide) ?_
  refine W.widen (k := cells + 40) (n := slots + 2000) (by omega) (by omega) ?_
  exact kk w1 w2 H locs ls ⟨_, _, _, hw1, hw2⟩ hP hD hS hl
set_option maxHeartbeats 4000000 in
set_option maxRecDepth 100000 in
theorem law_c19 {p : Program} {l : Launch} {e : Env} {s : State} {m : MethodId} {below : List Frame} {meth : Method} {c : Code} {b L : Nat} {xs : Nat → Int32} {dC : Nat → ClassId} {dI : Nat → Nat → Nat} {kA : Nat → ClassId} {aS vS : Nat} {oS : Option Nat} {x0 n0 : Nat} (C0 : lw_At p s m meth c b L xs) (hL : L ≤ 5120) (hK : zK dC dI kA s) (hZ : zStr aS vS oS (fun q : Nat => s.heap.size ≤ q) s s.heap) {i : Int32} (hi : 0 ≤ i.toInt ∧ i.toInt + 10 ≤ L) {cells slots : Nat} (hc : cells + 40 ≤ 600000) (hs : slots + 2000 ≤ 7302249) (kk : ∀ (wx wm : va_W) (H : Heap) (locs : List Loc) (ls : Array Slot), LInv kA x0 n0 wx wm → va_P (dC, dI) vwCl (wx ++ wm) H → va_D (fun q : Nat => s.heap.size ≤ q) (wx ++ wm) → va_S (fun q : Nat => s.heap.size ≤ q) s.heap H locs → lv_has ls 4 [(3, .int i), (2, .ref n0), (1, .ref x0), (0, .ref b)] → W p l e room_1 s m #[Value.ref b] below meth c H locs (cells + 40) (slots + 2000) (lw_Z below #[Value.ref b] s) (F0 m 1730 ls [])) (wx wm : va_W) (H : Heap) (locs : List Loc) (ls : Array Slot) (hI : LInv kA x0 n0 wx wm) (hP : va_P (dC, dI) vwCl (wx ++ wm) H) (hD : va_D (fun q : Nat => s.heap.size ≤ q) (wx ++ wm)) (hS : va_S (fun q : Nat => s.heap.size ≤ q) s.heap H locs) (hl : lv_has ls 4 [(3, .int i), (2, .ref n0), (1, .ref x0), (0, .ref b)]) : W p l e room_1 s m #[Value.ref b] below meth c H locs cells slots (lw_Z below #[Value.ref b] s) (F0 m 881 ls []) := by
  obtain ⟨hx, hb, hr, hml, hown0, hts0, hX, hbl, hlocks, hgv⟩ := C0
  have hown : s.vm.findClass RL = some m.cls := hown0
  have hts : ∀ w ∈ wsL_law, w.before #[Value.ref b] s = true := fun w h => hts0 w (wsL_law_in w h)
  have hA : ∀ q : Nat, s.heap.size ≤ q → (fun q : Nat => s.heap.size ≤ q) q := fun _ h => h
  have hbA : ¬ (fun q : Nat => s.heap.size ≤ q) b := Nat.not_le.mpr hbl
  obtain ⟨S_, LL, im, hX0, hM0⟩ := hI
  have hgd := MOK4_gd hM0
  have hxt := MOK4_xt hM0
  have hgr := MOK4_gr hM0
  have hgx := MOK4_gx hM0
  have hc1 : cells + 20 ≤ room_1.cells := by show cells + 20 ≤ 600000; omega
  have hs1 : slots + 1000 ≤ room_1.slots := by show slots + 1000 ≤ 7302249; omega
  have hc2 : cells + 20 + 20 ≤ room_1.cells := by show cells + 20 + 20 ≤ 600000; omega
  have hs2 : slots + 1000 + 1000 ≤ room_1.slots := by show slots + 1000 + 1000 ≤ 7302249; omega
  obtain ⟨a1, ea1⟩ : ∃ y : Int32, y = xs (i + 1).toNatClampNeg := ⟨_, rfl⟩
  obtain ⟨a2, ea2⟩ : ∃ y : Int32, y = xs (i + 2).toNatClampNeg := ⟨_, rfl⟩
  obtain ⟨a3, ea3⟩ : ∃ y : Int32, y = xs (i + 3).toNatClampNeg := ⟨_, rfl⟩
  obtain ⟨a4, ea4⟩ : ∃ y : Int32, y = xs (i + 4).toNatClampNeg := ⟨_, rfl⟩
  obtain ⟨a5, ea5⟩ : ∃ y : Int32, y = xs (i + 5).toNatClampNeg := ⟨_, rfl⟩
  obtain ⟨a6, ea6⟩ : ∃ y : Int32, y = xs (i + 6).toNatClampNeg := ⟨_, rfl⟩
  obtain ⟨a7, ea7⟩ : ∃ y : Int32, y = xs (i + 7).toNatClampNeg := ⟨_, rfl⟩
  obtain ⟨a8, ea8⟩ : ∃ y : Int32, y = xs (i + 8).toNatClampNeg := ⟨_, rfl⟩
  refine lv_aload_n hx hb dL_law_881 rfl (lv_at hl 2 rfl) ?_
  refine lv_aload_n hx hb dL_law_882 rfl (lv_at hl 3 rfl) ?_
  refine lv_iload_n hx hb dL_law_883 rfl (lv_at hl 0 rfl) ?_
  refine lv_iconst (v := 1) hx hb dL_law_884 (by decide) ?_
  refine lv_iadd hx hb dL_law_885 ?_
  refine va_sld hx hb hX hbl hbA hS (z_sc hi hL (n := 1) (by decide) (by decide)) dL_law_886 ?_
  refine zi a1 ea1.symm ?_
  refine lv_aload_n hx hb dL_law_887 rfl (lv_at hl 3 rfl) ?_
  refine lv_iload_n hx hb dL_law_888 rfl (lv_at hl 0 rfl) ?_
  refine lv_iconst (v := 2) hx hb dL_law_889 (by decide) ?_
  refine lv_iadd hx hb dL_law_890 ?_
  refine va_sld hx hb hX hbl hbA hS (z_sc hi hL (n := 2) (by decide) (by decide)) dL_law_891 ?_
  refine zi a2 ea2.symm ?_
  refine lv_aload_n hx hb dL_law_892 rfl (lv_at hl 3 rfl) ?_
  refine lv_iload_n hx hb dL_law_893 rfl (lv_at hl 0 rfl) ?_
  refine lv_iconst (v := 3) hx hb dL_law_894 (by decide) ?_
  refine lv_iadd hx hb dL_law_895 ?_
  refine va_sld hx hb hX hbl hbA hS (z_sc hi hL (n := 3) (by decide) (by decide)) dL_law_896 ?_
  refine zi a3 ea3.symm ?_
  refine lv_aload_n hx hb dL_law_897 rfl (lv_at hl 3 rfl) ?_
  refine lv_iload_n hx hb dL_law_898 rfl (lv_at hl 0 rfl) ?_
  refine lv_iconst (v := 4) hx hb dL_law_899 (by decide) ?_
  refine lv_iadd hx hb dL_law_900 ?_
  refine va_sld hx hb hX hbl hbA hS (z_sc hi hL (n := 4) (by decide) (by decide)) dL_law_901 ?_
  refine zi a4 ea4.symm ?_
  refine lv_aload_n hx hb dL_law_902 rfl (lv_at hl 3 rfl) ?_
  refine lv_iload_n hx hb dL_law_903 rfl (lv_at hl 0 rfl) ?_
  refine lv_iconst (v := 5) hx hb dL_law_904 (by decide) ?_
  refine lv_iadd hx hb dL_law_905 ?_
  refine va_sld hx hb hX hbl hbA hS (z_sc hi hL (n := 5) (by decide) (by decide)) dL_law_906 ?_
  refine zi a5 ea5.symm ?_
  refine lv_aload_n hx hb dL_law_907 rfl (lv_at hl 3 rfl) ?_
  refine lv_iload_n hx hb dL_law_908 rfl (lv_at hl 0 rfl) ?_
  refine lv_bipush (v := 6) hx hb dL_law_909 (by decide) ?_
  refine lv_iadd hx hb dL_law_911 ?_
  refine va_sld hx hb hX hbl hbA hS (z_sc hi hL (n := 6) (by decide) (by decide)) dL_law_912 ?_
  refine zi a6 ea6.symm ?_
  refine lv_aload_n hx hb dL_law_913 rfl (lv_at hl 3 rfl) ?_
  refine lv_iload_n hx hb dL_law_914 rfl (lv_at hl 0 rfl) ?_
  refine lv_bipush (v := 7) hx hb dL_law_915 (by decide) ?_
  refine lv_iadd hx hb dL_law_917 ?_
  refine va_sld hx hb hX hbl hbA hS (z_sc hi hL (n := 7) (by decide) (by decide)) dL_law_918 ?_
  refine zi a7 ea7.symm ?_
  refine lv_aload_n hx hb dL_law_919 rfl (lv_at hl 3 rfl) ?_
  refine lv_iload_n hx hb dL_law_920 rfl (lv_at hl 0 rfl) ?_
  refine lv_bipush (v := 8) hx hb dL_law_921 (by decide) ?_
  refine lv_iadd hx hb dL_law_923 ?_
  refine va_sld hx hb hX hbl hbA hS (z_sc hi hL (n := 8) (by decide) (by decide)) dL_law_924 ?_
  refine zi a8 ea8.symm ?_
  refine z_iL (wa := wx) (wb := wm) (va_runV (As := [.int a1, .int a2, .int a3, .int a4, .int a5, .int a6, .int a7, .int a8]) (rest := []) ⟨hx, hb, hml, hown, hts⟩ (wX10_best l dC dI kA _ x0 a1 a2 a3 a4 a5 a6 a7 a8 hX0 hgd hxt) (cwV 8 hts gL_law_X10_best rfl rfl rfl ⟨rfl, hdX10_best⟩ ⟨(Nat.le_of_ble_eq_true rfl), (Nat.le_of_ble_eq_true rfl)⟩) ⟨zPc.blind, XOK_rec hK hX0 hP, zPre hK (wl_P hP) (wl_D hD)⟩ rfl rfl hl.1 rfl (lv_room (Nat.le_of_ble_eq_true rfl)) dL_law_925 ⟨hc1, hs1⟩) hP hD hS hA (fun r1 w1 H locs hw1 hP hD hS => ?_)
  refine lv_pop hx hb dL_law_928 rfl ?_
  refine lv_aload_n hx hb dL_law_929 rfl (lv_at hl 1 rfl) ?_
  refine lv_aload_n hx hb dL_law_930 rfl (lv_at hl 3 rfl) ?_
  refine lv_iload_n hx hb dL_law_931 rfl (lv_at hl 0 rfl) ?_
  refine lv_iconst (v := 1) hx hb dL_law_932 (by decide) ?_
  refine lv_iadd hx hb dL_law_933 ?_
  refine va_sld hx hb hX hbl hbA hS (z_sc hi hL (n := 1) (by decide) (by decide)) dL_law_934 ?_
  refine zi a1 ea1.symm ?_
  refine lv_aload_n hx hb dL_law_935 rfl (lv_at hl 3 rfl) ?_
  refine lv_iload_n hx hb dL_law_936 rfl (lv_at hl 0 rfl) ?_
  refine lv_iconst (v := 2) hx hb dL_law_937 (by decide) ?_
  refine lv_iadd hx hb dL_law_938 ?_
  refine va_sld hx hb hX hbl hbA hS (z_sc hi hL (n := 2) (by decide) (by decide)) dL_law_939 ?_
  refine zi a2 ea2.symm ?_
  refine lv_aload_n hx hb dL_law_940 rfl (lv_at hl 3 rfl) ?_
  refine lv_iload_n hx hb dL_law_941 rfl (lv_at hl 0 rfl) ?_
  refine lv_iconst (v := 3) hx hb dL_law_942 (by decide) ?_
  refine lv_iadd hx hb dL_law_943 ?_
  refine va_sld hx hb hX hbl hbA hS (z_sc hi hL (n := 3) (by decide) (by decide)) dL_law_944 ?_
  refine zi a3 ea3.symm ?_
  refine lv_aload_n hx hb dL_law_945 rfl (lv_at hl 3 rfl) ?_
  refine lv_iload_n hx hb dL_law_946 rfl (lv_at hl 0 rfl) ?_
  refine lv_iconst (v := 4) hx hb dL_law_947 (by decide) ?_
  refine lv_iadd hx hb dL_law_948 ?_
  refine va_sld hx hb hX hbl hbA hS (z_sc hi hL (n := 4) (by decide) (by decide)) dL_law_949 ?_
  refine zi a4 ea4.symm ?_
  refine lv_aload_n hx hb dL_law_950 rfl (lv_at hl 3 rfl) ?_
  refine lv_iload_n hx hb dL_law_951 rfl (lv_at hl 0 rfl) ?_
  refine lv_iconst (v := 5) hx hb dL_law_952 (by decide) ?_
  refine lv_iadd hx hb dL_law_953 ?_
  refine va_sld hx hb hX hbl hbA hS (z_sc hi hL (n := 5) (by decide) (by decide)) dL_law_954 ?_
  refine zi a5 ea5.symm ?_
  refine lv_aload_n hx hb dL_law_955 rfl (lv_at hl 3 rfl) ?_
  refine lv_iload_n hx hb dL_law_956 rfl (lv_at hl 0 rfl) ?_
  refine lv_bipush (v := 6) hx hb dL_law_957 (by decide) ?_
  refine lv_iadd hx hb dL_law_959 ?_
  refine va_sld hx hb hX hbl hbA hS (z_sc hi hL (n := 6) (by decide) (by decide)) dL_law_960 ?_
  refine zi a6 ea6.symm ?_
  refine lv_aload_n hx hb dL_law_961 rfl (lv_at hl 3 rfl) ?_
  refine lv_iload_n hx hb dL_law_962 rfl (lv_at hl 0 rfl) ?_
  refine lv_bipush (v := 7) hx hb dL_law_963 (by decide) ?_
  refine lv_iadd hx hb dL_law_965 ?_
  refine va_sld hx hb hX hbl hbA hS (z_sc hi hL (n := 7) (by decide) (by decide)) dL_law_966 ?_
  refine zi a7 ea7.symm ?_
  refine lv_aload_n hx hb dL_law_967 rfl (lv_at hl 3 rfl) ?_
  refine lv_iload_n hx hb dL_law_968 rfl (lv_at hl 0 rfl) ?_
  refine lv_bipush (v := 8) hx hb dL_law_969 (by decide) ?_
  refine lv_iadd hx hb dL_law_971 ?_
  refine va_sld hx hb hX hbl hbA hS (z_sc hi hL (n := 8) (by decide) (by decide)) dL_law_972 ?_
  refine zi a8 ea8.symm ?_
  refine z_iL (wa := wm) (wb := w1) (va_runV (As := [.int a1, .int a2, .int a3, .int a4, .int a5, .int a6, .int a7, .int a8]) (rest := []) ⟨hx, hb, hml, hown, hts⟩ (wX11_best l dC dI kA _ n0 a1 a2 a3 a4 a5 a6 a7 a8 hM0) (cwV 8 hts gL_law_X11_best rfl rfl rfl ⟨rfl, hdX11_best⟩ ⟨(Nat.le_of_ble_eq_true rfl), (Nat.le_of_ble_eq_true rfl)⟩) ⟨zPc.blind, MOK_rec hK hM0 (wp_P hP List.perm_append_comm), zPre hK (wl_P (wp_P hP List.perm_append_comm)) (wl_D (wp_D hD List.perm_append_comm))⟩ rfl rfl hl.1 rfl (lv_room (Nat.le_of_ble_eq_true rfl)) dL_law_973 ⟨hc2, hs2⟩) (wp_P hP List.perm_append_comm) (wp_D hD List.perm_append_comm) hS hA (fun r2 w2 H locs hw2 hP hD hS => ?_)
  have hP := wp_P hP (List.perm_append_comm)
  have hD := wp_D hD (List.perm_append_comm)
  refine lv_pop hx hb dL_law_976 rfl ?_
  refine lv_goto (tgt := 1730) hx hb dL_law_977 (by decide) ?_
  refine W.widen (k := cells + 40) (n := slots + 2000) (by omega) (by omega) ?_
  exact kk w1 w2 H locs ls ⟨_, _, _, hw1, hw2⟩ hP hD hS hl
set_option maxHeartbeats 4000000 in
set_option maxRecDepth 100000 in
theorem law_c20 {p : Program} {l : Launch} {e : Env} {s : State} {m : MethodId} {below : List Frame} {meth : Method} {c : Code} {b L : Nat} {xs : Nat → Int32} {dC : Nat → ClassId} {dI : Nat → Nat → Nat} {kA : Nat → ClassId} {aS vS : Nat} {oS : Option Nat} {x0 n0 : Nat} (C0 : lw_At p s m meth c b L xs) (hL : L ≤ 5120) (hK : zK dC dI kA s) (hZ : zStr aS vS oS (fun q : Nat => s.heap.size ≤ q) s s.heap) {i : Int32} (hi : 0 ≤ i.toInt ∧ i.toInt + 10 ≤ L) {cells slots : Nat} (hc : cells + 40 ≤ 600000) (hs : slots + 2000 ≤ 7302249) (kk : ∀ (wx wm : va_W) (H : Heap) (locs : List Loc) (ls : Array Slot), LInv kA x0 n0 wx wm → va_P (dC, dI) vwCl (wx ++ wm) H → va_D (fun q : Nat => s.heap.size ≤ q) (wx ++ wm) → va_S (fun q : Nat => s.heap.size ≤ q) s.heap H locs → lv_has ls 4 [(3, .int i), (2, .ref n0), (1, .ref x0), (0, .ref b)] → W p l e room_1 s m #[Value.ref b] below meth c H locs (cells + 40) (slots + 2000) (lw_Z below #[Value.ref b] s) (F0 m 1730 ls [])) (wx wm : va_W) (H : Heap) (locs : List Loc) (ls : Array Slot) (hI : LInv kA x0 n0 wx wm) (hP : va_P (dC, dI) vwCl (wx ++ wm) H) (hD : va_D (fun q : Nat => s.heap.size ≤ q) (wx ++ wm)) (hS : va_S (fun q : Nat => s.heap.size ≤ q) s.heap H locs) (hl : lv_has ls 4 [(3, .int i), (2, .ref n0), (1, .ref x0), (0, .ref b)]) : W p l e room_1 s m #[Value.ref b] below meth c H locs cells slots (lw_Z below #[Value.ref b] s) (F0 m 980 ls []) := by
  obtain ⟨hx, hb, hr, hml, hown0, hts0, hX, hbl, hlocks, hgv⟩ := C0
  have hown : s.vm.findClass RL = some m.cls := hown0
  have hts : ∀ w ∈ wsL_law, w.before #[Value.ref b] s = true := fun w h => hts0 w (wsL_law_in w h)
  have hA : ∀ q : Nat, s.heap.size ≤ q → (fun q : Nat => s.heap.size ≤ q) q := fun _ h => h
  have hbA : ¬ (fun q : Nat => s.heap.size ≤ q) b := Nat.not_le.mpr hbl
  obtain ⟨S_, LL, im, hX0, hM0⟩ := hI
  have hgd := MOK4_gd hM0
  have hxt := MOK4_xt hM0
  have hgr := MOK4_gr hM0
  have hgx := MOK4_gx hM0
  have hc1 : cells + 20 ≤ room_1.cells := by show cells + 20 ≤ 600000; omega
  have hs1 : slots + 1000 ≤ room_1.slots := by show slots + 1000 ≤ 7302249; omega
  have hc2 : cells + 20 + 20 ≤ room_1.cells := by show cells + 20 + 20 ≤ 600000; omega
  have hs2 : slots + 1000 + 1000 ≤ room_1.slots := by show slots + 1000 + 1000 ≤ 7302249; omega
  obtain ⟨a1, ea1⟩ : ∃ y : Int32, y = xs (i + 1).toNatClampNeg := ⟨_, rfl⟩
  obtain ⟨a2, ea2⟩ : ∃ y : Int32, y = xs (i + 2).toNatClampNeg := ⟨_, rfl⟩
  refine lv_aload_n hx hb dL_law_980 rfl (lv_at hl 2 rfl) ?_
  refine lv_aload_n hx hb dL_law_981 rfl (lv_at hl 3 rfl) ?_
  refine lv_iload_n hx hb dL_law_982 rfl (lv_at hl 0 rfl) ?_
  refine lv_iconst (v := 1) hx hb dL_law_983 (by decide) ?_
  refine lv_iadd hx hb dL_law_984 ?_
  refine va_sld hx hb hX hbl hbA hS (z_sc hi hL (n := 1) (by decide) (by decide)) dL_law_985 ?_
  refine zi a1 ea1.symm ?_
  refine lv_aload_n hx hb dL_law_986 rfl (lv_at hl 3 rfl) ?_
  refine lv_iload_n hx hb dL_law_987 rfl (lv_at hl 0 rfl) ?_
  refine lv_iconst (v := 2) hx hb dL_law_988 (by decide) ?_
  refine lv_iadd hx hb dL_law_989 ?_
  refine va_sld hx hb hX hbl hbA hS (z_sc hi hL (n := 2) (by decide) (by decide)) dL_law_990 ?_
  refine zi a2 ea2.symm ?_
  refine z_iL (wa := wx) (wb := wm) (va_runV (As := [.int a1, .int a2]) (rest := []) ⟨hx, hb, hml, hown, hts⟩ (wX10_soonest l dC dI kA _ x0 a1 a2 hX0 hgd hxt) (cwV 2 hts gL_law_X10_soonest rfl rfl rfl ⟨rfl, hdX10_soonest⟩ ⟨(Nat.le_of_ble_eq_true rfl), (Nat.le_of_ble_eq_true rfl)⟩) ⟨zPc.blind, XOK_rec hK hX0 hP, zPre hK (wl_P hP) (wl_D hD)⟩ rfl rfl hl.1 rfl (lv_room (Nat.le_of_ble_eq_true rfl)) dL_law_991 ⟨hc1, hs1⟩) hP hD hS hA (fun r1 w1 H locs hw1 hP hD hS => ?_)
  refine lv_pop hx hb dL_law_994 rfl ?_
  refine lv_aload_n hx hb dL_law_995 rfl (lv_at hl 1 rfl) ?_
  refine lv_aload_n hx hb dL_law_996 rfl (lv_at hl 3 rfl) ?_
  refine lv_iload_n hx hb dL_law_997 rfl (lv_at hl 0 rfl) ?_
  refine lv_iconst (v := 1) hx hb dL_law_998 (by decide) ?_
  refine lv_iadd hx hb dL_law_999 ?_
  refine va_sld hx hb hX hbl hbA hS (z_sc hi hL (n := 1) (by decide) (by decide)) dL_law_1000 ?_
  refine zi a1 ea1.symm ?_
  refine lv_aload_n hx hb dL_law_1001 rfl (lv_at hl 3 rfl) ?_
  refine lv_iload_n hx hb dL_law_1002 rfl (lv_at hl 0 rfl) ?_
  refine lv_iconst (v := 2) hx hb dL_law_1003 (by decide) ?_
  refine lv_iadd hx hb dL_law_1004 ?_
  refine va_sld hx hb hX hbl hbA hS (z_sc hi hL (n := 2) (by decide) (by decide)) dL_law_1005 ?_
  refine zi a2 ea2.symm ?_
  refine z_iL (wa := wm) (wb := w1) (va_runV (As := [.int a1, .int a2]) (rest := []) ⟨hx, hb, hml, hown, hts⟩ (wX11_soonest l dC dI kA _ n0 a1 a2 hM0) (cwV 2 hts gL_law_X11_soonest rfl rfl rfl ⟨rfl, hdX11_soonest⟩ ⟨(Nat.le_of_ble_eq_true rfl), (Nat.le_of_ble_eq_true rfl)⟩) ⟨zPc.blind, MOK_rec hK hM0 (wp_P hP List.perm_append_comm), zPre hK (wl_P (wp_P hP List.perm_append_comm)) (wl_D (wp_D hD List.perm_append_comm))⟩ rfl rfl hl.1 rfl (lv_room (Nat.le_of_ble_eq_true rfl)) dL_law_1006 ⟨hc2, hs2⟩) (wp_P hP List.perm_append_comm) (wp_D hD List.perm_append_comm) hS hA (fun r2 w2 H locs hw2 hP hD hS => ?_)
  have hP := wp_P hP (List.perm_append_comm)
  have hD := wp_D hD (List.perm_append_comm)
  refine lv_pop hx hb dL_law_1009 rfl ?_
  refine lv_goto (tgt := 1730) hx hb dL_law_1010 (by decide) ?_
  refine W.widen (k := cells + 40) (n := slots + 2000) (by omega) (by omega) ?_
  exact kk w1 w2 H locs ls ⟨_, _, _, hw1, hw2⟩ hP hD hS hl
set_option maxHeartbeats 4000000 in
set_option maxRecDepth 100000 in
theorem law_c21 {p : Program} {l : Launch} {e : Env} {s : State} {m : MethodId} {below : List Frame} {meth : Method} {c : Code} {b L : Nat} {xs : Nat → Int32} {dC : Nat → ClassId} {dI : Nat → Nat → Nat} {kA : Nat → ClassId} {aS vS : Nat} {oS : Option Nat} {x0 n0 : Nat} (C0 : lw_At p s m meth c b L xs) (hL : L ≤ 5120) (hK : zK dC dI kA s) (hZ : zStr aS vS oS (fun q : Nat => s.heap.size ≤ q) s s.heap) {i : Int32} (hi : 0 ≤ i.toInt ∧ i.toInt + 10 ≤ L) {cells slots : Nat} (hc : cells + 40 ≤ 600000) (hs : slots + 2000 ≤ 7302249) (kk : ∀ (wx wm : va_W) (H : Heap) (locs : List Loc) (ls : Array Slot), LInv kA x0 n0 wx wm → va_P (dC, dI) vwCl (wx ++ wm) H → va_D (fun q : Nat => s.heap.size ≤ q) (wx ++ wm) → va_S (fun q : Nat => s.heap.size ≤ q) s.heap H locs → lv_has ls 4 [(3, .int i), (2, .ref n0), (1, .ref x0), (0, .ref b)] → W p l e room_1 s m #[Value.ref b] below meth c H locs (cells + 40) (slots + 2000) (lw_Z below #[Value.ref b] s) (F0 m 1730 ls [])) (wx wm : va_W) (H : Heap) (locs : List Loc) (ls : Array Slot) (hI : LInv kA x0 n0 wx wm) (hP : va_P (dC, dI) vwCl (wx ++ wm) H) (hD : va_D (fun q : Nat => s.heap.size ≤ q) (wx ++ wm)) (hS : va_S (fun q : Nat => s.heap.size ≤ q) s.heap H locs) (hl : lv_has ls 4 [(3, .int i), (2, .ref n0), (1, .ref x0), (0, .ref b)]) : W p l e room_1 s m #[Value.ref b] below meth c H locs cells slots (lw_Z below #[Value.ref b] s) (F0 m 1013 ls []) := by
  obtain ⟨hx, hb, hr, hml, hown0, hts0, hX, hbl, hlocks, hgv⟩ := C0
  have hown : s.vm.findClass RL = some m.cls := hown0
  have hts : ∀ w ∈ wsL_law, w.before #[Value.ref b] s = true := fun w h => hts0 w (wsL_law_in w h)
  have hA : ∀ q : Nat, s.heap.size ≤ q → (fun q : Nat => s.heap.size ≤ q) q := fun _ h => h
  have hbA : ¬ (fun q : Nat => s.heap.size ≤ q) b := Nat.not_le.mpr hbl
  obtain ⟨S_, LL, im, hX0, hM0⟩ := hI
  have hgd := MOK4_gd hM0
  have hxt := MOK4_xt hM0
  have hgr := MOK4_gr hM0
  have hgx := MOK4_gx hM0
  have hc1 : cells + 20 ≤ room_1.cells := by show cells + 20 ≤ 600000; omega
  have hs1 : slots + 1000 ≤ room_1.slots := by show slots + 1000 ≤ 7302249; omega
  have hc2 : cells + 20 + 20 ≤ room_1.cells := by show cells + 20 + 20 ≤ 600000; omega
  have hs2 : slots + 1000 + 1000 ≤ room_1.slots := by show slots + 1000 + 1000 ≤ 7302249; omega
  obtain ⟨a1, ea1⟩ : ∃ y : Int32, y = xs (i + 1).toNatClampNeg := ⟨_, rfl⟩
  obtain ⟨a2, ea2⟩ : ∃ y : Int32, y = xs (i + 2).toNatClampNeg := ⟨_, rfl⟩
  refine lv_aload_n hx hb dL_law_1013 rfl (lv_at hl 2 rfl) ?_
  refine lv_aload_n hx hb dL_law_1014 rfl (lv_at hl 3 rfl) ?_
  refine lv_iload_n hx hb dL_law_1015 rfl (lv_at hl 0 rfl) ?_
  refine lv_iconst (v := 1) hx hb dL_law_1016 (by decide) ?_
  refine lv_iadd hx hb dL_law_1017 ?_
  refine va_sld hx hb hX hbl hbA hS (z_sc hi hL (n := 1) (by decide) (by decide)) dL_law_1018 ?_
  refine zi a1 ea1.symm ?_
  refine lv_aload_n hx hb dL_law_1019 rfl (lv_at hl 3 rfl) ?_
  refine lv_iload_n hx hb dL_law_1020 rfl (lv_at hl 0 rfl) ?_
  refine lv_iconst (v := 2) hx hb dL_law_1021 (by decide) ?_
  refine lv_iadd hx hb dL_law_1022 ?_
  refine va_sld hx hb hX hbl hbA hS (z_sc hi hL (n := 2) (by decide) (by decide)) dL_law_1023 ?_
  refine zi a2 ea2.symm ?_
  refine z_iL (wa := wx) (wb := wm) (va_runV (As := [.int a1, .int a2]) (rest := []) ⟨hx, hb, hml, hown, hts⟩ (wX10_nearest l dC dI kA _ x0 a1 a2 hX0 hgd hxt) (cwV 2 hts gL_law_X10_nearest rfl rfl rfl ⟨rfl, hdX10_nearest⟩ ⟨(Nat.le_of_ble_eq_true rfl), (Nat.le_of_ble_eq_true rfl)⟩) ⟨zPc.blind, XOK_rec hK hX0 hP, zPre hK (wl_P hP) (wl_D hD)⟩ rfl rfl hl.1 rfl (lv_room (Nat.le_of_ble_eq_true rfl)) dL_law_1024 ⟨hc1, hs1⟩) hP hD hS hA (fun r1 w1 H locs hw1 hP hD hS => ?_)
  refine lv_pop hx hb dL_law_1027 rfl ?_
  refine lv_aload_n hx hb dL_law_1028 rfl (lv_at hl 1 rfl) ?_
  refine lv_aload_n hx hb dL_law_1029 rfl (lv_at hl 3 rfl) ?_
  refine lv_iload_n hx hb dL_law_1030 rfl (lv_at hl 0 rfl) ?_
  refine lv_iconst (v := 1) hx hb dL_law_1031 (by decide) ?_
  refine lv_iadd hx hb dL_law_1032 ?_
  refine va_sld hx hb hX hbl hbA hS (z_sc hi hL (n := 1) (by decide) (by decide)) dL_law_1033 ?_
  refine zi a1 ea1.symm ?_
  refine lv_aload_n hx hb dL_law_1034 rfl (lv_at hl 3 rfl) ?_
  refine lv_iload_n hx hb dL_law_1035 rfl (lv_at hl 0 rfl) ?_
  refine lv_iconst (v := 2) hx hb dL_law_1036 (by decide) ?_
  refine lv_iadd hx hb dL_law_1037 ?_
  refine va_sld hx hb hX hbl hbA hS (z_sc hi hL (n := 2) (by decide) (by decide)) dL_law_1038 ?_
  refine zi a2 ea2.symm ?_
  refine z_iL (wa := wm) (wb := w1) (va_runV (As := [.int a1, .int a2]) (rest := []) ⟨hx, hb, hml, hown, hts⟩ (wX11_nearest l dC dI kA _ n0 a1 a2 hM0) (cwV 2 hts gL_law_X11_nearest rfl rfl rfl ⟨rfl, hdX11_nearest⟩ ⟨(Nat.le_of_ble_eq_true rfl), (Nat.le_of_ble_eq_true rfl)⟩) ⟨zPc.blind, MOK_rec hK hM0 (wp_P hP List.perm_append_comm), zPre hK (wl_P (wp_P hP List.perm_append_comm)) (wl_D (wp_D hD List.perm_append_comm))⟩ rfl rfl hl.1 rfl (lv_room (Nat.le_of_ble_eq_true rfl)) dL_law_1039 ⟨hc2, hs2⟩) (wp_P hP List.perm_append_comm) (wp_D hD List.perm_append_comm) hS hA (fun r2 w2 H locs hw2 hP hD hS => ?_)
  have hP := wp_P hP (List.perm_append_comm)
  have hD := wp_D hD (List.perm_append_comm)
  refine lv_pop hx hb dL_law_1042 rfl ?_
  refine lv_goto (tgt := 1730) hx hb dL_law_1043 (by decide) ?_
  refine W.widen (k := cells + 40) (n := slots + 2000) (by omega) (by omega) ?_
  exact kk w1 w2 H locs ls ⟨_, _, _, hw1, hw2⟩ hP hD hS hl
set_option maxHeartbeats 4000000 in
set_option maxRecDepth 100000 in
theorem law_c22 {p : Program} {l : Launch} {e : Env} {s : State} {m : MethodId} {below : List Frame} {meth : Method} {c : Code} {b L : Nat} {xs : Nat → Int32} {dC : Nat → ClassId} {dI : Nat → Nat → Nat} {kA : Nat → ClassId} {aS vS : Nat} {oS : Option Nat} {x0 n0 : Nat} (C0 : lw_At p s m meth c b L xs) (hL : L ≤ 5120) (hK : zK dC dI kA s) (hZ : zStr aS vS oS (fun q : Nat => s.heap.size ≤ q) s s.heap) {i : Int32} (hi : 0 ≤ i.toInt ∧ i.toInt + 10 ≤ L) {cells slots : Nat} (hc : cells + 40 ≤ 600000) (hs : slots + 2000 ≤ 7302249) (kk : ∀ (wx wm : va_W) (H : Heap) (locs : List Loc) (ls : Array Slot), LInv kA x0 n0 wx wm → va_P (dC, dI) vwCl (wx ++ wm) H → va_D (fun q : Nat => s.heap.size ≤ q) (wx ++ wm) → va_S (fun q : Nat => s.heap.size ≤ q) s.heap H locs → lv_has ls 4 [(3, .int i), (2, .ref n0), (1, .ref x0), (0, .ref b)] → W p l e room_1 s m #[Value.ref b] below meth c H locs (cells + 40) (slots + 2000) (lw_Z below #[Value.ref b] s) (F0 m 1730 ls [])) (wx wm : va_W) (H : Heap) (locs : List Loc) (ls : Array Slot) (hI : LInv kA x0 n0 wx wm) (hP : va_P (dC, dI) vwCl (wx ++ wm) H) (hD : va_D (fun q : Nat => s.heap.size ≤ q) (wx ++ wm)) (hS : va_S (fun q : Nat => s.heap.size ≤ q) s.heap H locs) (hl : lv_has ls 4 [(3, .int i), (2, .ref n0), (1, .ref x0), (0, .ref b)]) : W p l e room_1 s m #[Value.ref b] below meth c H locs cells slots (lw_Z below #[Value.ref b] s) (F0 m 1046 ls []) := by
  obtain ⟨hx, hb, hr, hml, hown0, hts0, hX, hbl, hlocks, hgv⟩ := C0
  have hown : s.vm.findClass RL = some m.cls := hown0
  have hts : ∀ w ∈ wsL_law, w.before #[Value.ref b] s = true := fun w h => hts0 w (wsL_law_in w h)
  have hA : ∀ q : Nat, s.heap.size ≤ q → (fun q : Nat => s.heap.size ≤ q) q := fun _ h => h
  have hbA : ¬ (fun q : Nat => s.heap.size ≤ q) b := Nat.not_le.mpr hbl
  obtain ⟨S_, LL, im, hX0, hM0⟩ := hI
  have hgd := MOK4_gd hM0
  have hxt := MOK4_xt hM0
  have hgr := MOK4_gr hM0
  have hgx := MOK4_gx hM0
  have hc1 : cells + 20 ≤ room_1.cells := by show cells + 20 ≤ 600000; omega
  have hs1 : slots + 1000 ≤ room_1.slots := by show slots + 1000 ≤ 7302249; omega
  have hc2 : cells + 20 + 20 ≤ room_1.cells := by show cells + 20 + 20 ≤ 600000; omega
  have hs2 : slots + 1000 + 1000 ≤ room_1.slots := by show slots + 1000 + 1000 ≤ 7302249; omega
  obtain ⟨a1, ea1⟩ : ∃ y : Int32, y = xs (i + 1).toNatClampNeg := ⟨_, rfl⟩
  obtain ⟨a2, ea2⟩ : ∃ y : Int32, y = xs (i + 2).toNatClampNeg := ⟨_, rfl⟩
  obtain ⟨a3, ea3⟩ : ∃ y : Int32, y = xs (i + 3).toNatClampNeg := ⟨_, rfl⟩
  obtain ⟨a4, ea4⟩ : ∃ y : Int32, y = xs (i + 4).toNatClampNeg := ⟨_, rfl⟩
  obtain ⟨a5, ea5⟩ : ∃ y : Int32, y = xs (i + 5).toNatClampNeg := ⟨_, rfl⟩
  obtain ⟨a6, ea6⟩ : ∃ y : Int32, y = xs (i + 6).toNatClampNeg := ⟨_, rfl⟩
  refine lv_aload_n hx hb dL_law_1046 rfl (lv_at hl 2 rfl) ?_
  refine lv_aload_n hx hb dL_law_1047 rfl (lv_at hl 3 rfl) ?_
  refine lv_iload_n hx hb dL_law_1048 rfl (lv_at hl 0 rfl) ?_
  refine lv_iconst (v := 1) hx hb dL_law_1049 (by decide) ?_
  refine lv_iadd hx hb dL_law_1050 ?_
  refine va_sld hx hb hX hbl hbA hS (z_sc hi hL (n := 1) (by decide) (by decide)) dL_law_1051 ?_
  refine zi a1 ea1.symm ?_
  refine lv_aload_n hx hb dL_law_1052 rfl (lv_at hl 3 rfl) ?_
  refine lv_iload_n hx hb dL_law_1053 rfl (lv_at hl 0 rfl) ?_
  refine lv_iconst (v := 2) hx hb dL_law_1054 (by decide) ?_
  refine lv_iadd hx hb dL_law_1055 ?_
  refine va_sld hx hb hX hbl hbA hS (z_sc hi hL (n := 2) (by decide) (by decide)) dL_law_1056 ?_
  refine zi a2 ea2.symm ?_
  refine lv_aload_n hx hb dL_law_1057 rfl (lv_at hl 3 rfl) ?_
  refine lv_iload_n hx hb dL_law_1058 rfl (lv_at hl 0 rfl) ?_
  refine lv_iconst (v := 3) hx hb dL_law_1059 (by decide) ?_
  refine lv_iadd hx hb dL_law_1060 ?_
  refine va_sld hx hb hX hbl hbA hS (z_sc hi hL (n := 3) (by decide) (by decide)) dL_law_1061 ?_
  refine zi a3 ea3.symm ?_
  refine lv_aload_n hx hb dL_law_1062 rfl (lv_at hl 3 rfl) ?_
  refine lv_iload_n hx hb dL_law_1063 rfl (lv_at hl 0 rfl) ?_
  refine lv_iconst (v := 4) hx hb dL_law_1064 (by decide) ?_
  refine lv_iadd hx hb dL_law_1065 ?_
  refine va_sld hx hb hX hbl hbA hS (z_sc hi hL (n := 4) (by decide) (by decide)) dL_law_1066 ?_
  refine zi a4 ea4.symm ?_
  refine lv_aload_n hx hb dL_law_1067 rfl (lv_at hl 3 rfl) ?_
  refine lv_iload_n hx hb dL_law_1068 rfl (lv_at hl 0 rfl) ?_
  refine lv_iconst (v := 5) hx hb dL_law_1069 (by decide) ?_
  refine lv_iadd hx hb dL_law_1070 ?_
  refine va_sld hx hb hX hbl hbA hS (z_sc hi hL (n := 5) (by decide) (by decide)) dL_law_1071 ?_
  refine zi a5 ea5.symm ?_
  refine lv_aload_n hx hb dL_law_1072 rfl (lv_at hl 3 rfl) ?_
  refine lv_iload_n hx hb dL_law_1073 rfl (lv_at hl 0 rfl) ?_
  refine lv_bipush (v := 6) hx hb dL_law_1074 (by decide) ?_
  refine lv_iadd hx hb dL_law_1076 ?_
  refine va_sld hx hb hX hbl hbA hS (z_sc hi hL (n := 6) (by decide) (by decide)) dL_law_1077 ?_
  refine zi a6 ea6.symm ?_
  refine z_iL (wa := wx) (wb := wm) (va_runV (As := [.int a1, .int a2, .int a3, .int a4, .int a5, .int a6]) (rest := []) ⟨hx, hb, hml, hown, hts⟩ (wX10_warmer l dC dI kA _ x0 a1 a2 a3 a4 a5 a6 hX0 hgd hxt) (cwV 6 hts gL_law_X10_warmer rfl rfl rfl ⟨rfl, hdX10_warmer⟩ ⟨(Nat.le_of_ble_eq_true rfl), (Nat.le_of_ble_eq_true rfl)⟩) ⟨zPc.blind, XOK_rec hK hX0 hP, zPre hK (wl_P hP) (wl_D hD)⟩ rfl rfl hl.1 rfl (lv_room (Nat.le_of_ble_eq_true rfl)) dL_law_1078 ⟨hc1, hs1⟩) hP hD hS hA (fun r1 w1 H locs hw1 hP hD hS => ?_)
  refine lv_pop hx hb dL_law_1081 rfl ?_
  refine lv_aload_n hx hb dL_law_1082 rfl (lv_at hl 1 rfl) ?_
  refine lv_aload_n hx hb dL_law_1083 rfl (lv_at hl 3 rfl) ?_
  refine lv_iload_n hx hb dL_law_1084 rfl (lv_at hl 0 rfl) ?_
  refine lv_iconst (v := 1) hx hb dL_law_1085 (by decide) ?_
  refine lv_iadd hx hb dL_law_1086 ?_
  refine va_sld hx hb hX hbl hbA hS (z_sc hi hL (n := 1) (by decide) (by decide)) dL_law_1087 ?_
  refine zi a1 ea1.symm ?_
  refine lv_aload_n hx hb dL_law_1088 rfl (lv_at hl 3 rfl) ?_
  refine lv_iload_n hx hb dL_law_1089 rfl (lv_at hl 0 rfl) ?_
  refine lv_iconst (v := 2) hx hb dL_law_1090 (by decide) ?_
  refine lv_iadd hx hb dL_law_1091 ?_
  refine va_sld hx hb hX hbl hbA hS (z_sc hi hL (n := 2) (by decide) (by decide)) dL_law_1092 ?_
  refine zi a2 ea2.symm ?_
  refine lv_aload_n hx hb dL_law_1093 rfl (lv_at hl 3 rfl) ?_
  refine lv_iload_n hx hb dL_law_1094 rfl (lv_at hl 0 rfl) ?_
  refine lv_iconst (v := 3) hx hb dL_law_1095 (by decide) ?_
  refine lv_iadd hx hb dL_law_1096 ?_
  refine va_sld hx hb hX hbl hbA hS (z_sc hi hL (n := 3) (by decide) (by decide)) dL_law_1097 ?_
  refine zi a3 ea3.symm ?_
  refine lv_aload_n hx hb dL_law_1098 rfl (lv_at hl 3 rfl) ?_
  refine lv_iload_n hx hb dL_law_1099 rfl (lv_at hl 0 rfl) ?_
  refine lv_iconst (v := 4) hx hb dL_law_1100 (by decide) ?_
  refine lv_iadd hx hb dL_law_1101 ?_
  refine va_sld hx hb hX hbl hbA hS (z_sc hi hL (n := 4) (by decide) (by decide)) dL_law_1102 ?_
  refine zi a4 ea4.symm ?_
  refine lv_aload_n hx hb dL_law_1103 rfl (lv_at hl 3 rfl) ?_
  refine lv_iload_n hx hb dL_law_1104 rfl (lv_at hl 0 rfl) ?_
  refine lv_iconst (v := 5) hx hb dL_law_1105 (by decide) ?_
  refine lv_iadd hx hb dL_law_1106 ?_
  refine va_sld hx hb hX hbl hbA hS (z_sc hi hL (n := 5) (by decide) (by decide)) dL_law_1107 ?_
  refine zi a5 ea5.symm ?_
  refine lv_aload_n hx hb dL_law_1108 rfl (lv_at hl 3 rfl) ?_
  refine lv_iload_n hx hb dL_law_1109 rfl (lv_at hl 0 rfl) ?_
  refine lv_bipush (v := 6) hx hb dL_law_1110 (by decide) ?_
  refine lv_iadd hx hb dL_law_1112 ?_
  refine va_sld hx hb hX hbl hbA hS (z_sc hi hL (n := 6) (by decide) (by decide)) dL_law_1113 ?_
  refine zi a6 ea6.symm ?_
  refine z_iL (wa := wm) (wb := w1) (va_runV (As := [.int a1, .int a2, .int a3, .int a4, .int a5, .int a6]) (rest := []) ⟨hx, hb, hml, hown, hts⟩ (wX11_warmer l dC dI kA _ n0 a1 a2 a3 a4 a5 a6 hM0) (cwV 6 hts gL_law_X11_warmer rfl rfl rfl ⟨rfl, hdX11_warmer⟩ ⟨(Nat.le_of_ble_eq_true rfl), (Nat.le_of_ble_eq_true rfl)⟩) ⟨zPc.blind, MOK_rec hK hM0 (wp_P hP List.perm_append_comm), zPre hK (wl_P (wp_P hP List.perm_append_comm)) (wl_D (wp_D hD List.perm_append_comm))⟩ rfl rfl hl.1 rfl (lv_room (Nat.le_of_ble_eq_true rfl)) dL_law_1114 ⟨hc2, hs2⟩) (wp_P hP List.perm_append_comm) (wp_D hD List.perm_append_comm) hS hA (fun r2 w2 H locs hw2 hP hD hS => ?_)
  have hP := wp_P hP (List.perm_append_comm)
  have hD := wp_D hD (List.perm_append_comm)
  refine lv_pop hx hb dL_law_1117 rfl ?_
  refine lv_goto (tgt := 1730) hx hb dL_law_1118 (by decide) ?_
  refine W.widen (k := cells + 40) (n := slots + 2000) (by omega) (by omega) ?_
  exact kk w1 w2 H locs ls ⟨_, _, _, hw1, hw2⟩ hP hD hS hl
set_option maxHeartbeats 4000000 in
set_option maxRecDepth 100000 in
theorem law_c23 {p : Program} {l : Launch} {e : Env} {s : State} {m : MethodId} {below : List Frame} {meth : Method} {c : Code} {b L : Nat} {xs : Nat → Int32} {dC : Nat → ClassId} {dI : Nat → Nat → Nat} {kA : Nat → ClassId} {aS vS : Nat} {oS : Option Nat} {x0 n0 : Nat} (C0 : lw_At p s m meth c b L xs) (hL : L ≤ 5120) (hK : zK dC dI kA s) (hZ : zStr aS vS oS (fun q : Nat => s.heap.size ≤ q) s s.heap) {i : Int32} (hi : 0 ≤ i.toInt ∧ i.toInt + 10 ≤ L) {cells slots : Nat} (hc : cells + 40 ≤ 600000) (hs : slots + 2000 ≤ 7302249) (kk : ∀ (wx wm : va_W) (H : Heap) (locs : List Loc) (ls : Array Slot), LInv kA x0 n0 wx wm → va_P (dC, dI) vwCl (wx ++ wm) H → va_D (fun q : Nat => s.heap.size ≤ q) (wx ++ wm) → va_S (fun q : Nat => s.heap.size ≤ q) s.heap H locs → lv_has ls 4 [(3, .int i), (2, .ref n0), (1, .ref x0), (0, .ref b)] → W p l e room_1 s m #[Value.ref b] below meth c H locs (cells + 40) (slots + 2000) (lw_Z below #[Value.ref b] s) (F0 m 1730 ls [])) (wx wm : va_W) (H : Heap) (locs : List Loc) (ls : Array Slot) (hI : LInv kA x0 n0 wx wm) (hP : va_P (dC, dI) vwCl (wx ++ wm) H) (hD : va_D (fun q : Nat => s.heap.size ≤ q) (wx ++ wm)) (hS : va_S (fun q : Nat => s.heap.size ≤ q) s.heap H locs) (hl : lv_has ls 4 [(3, .int i), (2, .ref n0), (1, .ref x0), (0, .ref b)]) : W p l e room_1 s m #[Value.ref b] below meth c H locs cells slots (lw_Z below #[Value.ref b] s) (F0 m 1121 ls []) := by
  obtain ⟨hx, hb, hr, hml, hown0, hts0, hX, hbl, hlocks, hgv⟩ := C0
  have hown : s.vm.findClass RL = some m.cls := hown0
  have hts : ∀ w ∈ wsL_law, w.before #[Value.ref b] s = true := fun w h => hts0 w (wsL_law_in w h)
  have hA : ∀ q : Nat, s.heap.size ≤ q → (fun q : Nat => s.heap.size ≤ q) q := fun _ h => h
  have hbA : ¬ (fun q : Nat => s.heap.size ≤ q) b := Nat.not_le.mpr hbl
  obtain ⟨S_, LL, im, hX0, hM0⟩ := hI
  have hgd := MOK4_gd hM0
  have hxt := MOK4_xt hM0
  have hgr := MOK4_gr hM0
  have hgx := MOK4_gx hM0
  have hc1 : cells + 20 ≤ room_1.cells := by show cells + 20 ≤ 600000; omega
  have hs1 : slots + 1000 ≤ room_1.slots := by show slots + 1000 ≤ 7302249; omega
  have hc2 : cells + 20 + 20 ≤ room_1.cells := by show cells + 20 + 20 ≤ 600000; omega
  have hs2 : slots + 1000 + 1000 ≤ room_1.slots := by show slots + 1000 + 1000 ≤ 7302249; omega
  obtain ⟨a1, ea1⟩ : ∃ y : Int32, y = xs (i + 1).toNatClampNeg := ⟨_, rfl⟩
  obtain ⟨a2, ea2⟩ : ∃ y : Int32, y = xs (i + 2).toNatClampNeg := ⟨_, rfl⟩
  obtain ⟨a3, ea3⟩ : ∃ y : Int32, y = xs (i + 3).toNatClampNeg := ⟨_, rfl⟩
  obtain ⟨a4, ea4⟩ : ∃ y : Int32, y = xs (i + 4).toNatClampNeg := ⟨_, rfl⟩
  obtain ⟨a5, ea5⟩ : ∃ y : Int32, y = xs (i + 5).toNatClampNeg := ⟨_, rfl⟩
  obtain ⟨a6, ea6⟩ : ∃ y : Int32, y = xs (i + 6).toNatClampNeg := ⟨_, rfl⟩
  obtain ⟨a7, ea7⟩ : ∃ y : Int32, y = xs (i + 7).toNatClampNeg := ⟨_, rfl⟩
  obtain ⟨a8, ea8⟩ : ∃ y : Int32, y = xs (i + 8).toNatClampNeg := ⟨_, rfl⟩
  obtain ⟨a9, ea9⟩ : ∃ y : Int32, y = xs (i + 9).toNatClampNeg := ⟨_, rfl⟩
  refine lv_aload_n hx hb dL_law_1121 rfl (lv_at hl 2 rfl) ?_
  refine lv_aload_n hx hb dL_law_1122 rfl (lv_at hl 3 rfl) ?_
  refine lv_iload_n hx hb dL_law_1123 rfl (lv_at hl 0 rfl) ?_
  refine lv_iconst (v := 1) hx hb dL_law_1124 (by decide) ?_
  refine lv_iadd hx hb dL_law_1125 ?_
  refine va_sld hx hb hX hbl hbA hS (z_sc hi hL (n := 1) (by decide) (by decide)) dL_law_1126 ?_
  refine zi a1 ea1.symm ?_
  refine lv_aload_n hx hb dL_law_1127 rfl (lv_at hl 3 rfl) ?_
  refine lv_iload_n hx hb dL_law_1128 rfl (lv_at hl 0 rfl) ?_
  refine lv_iconst (v := 2) hx hb dL_law_1129 (by decide) ?_
  refine lv_iadd hx hb dL_law_1130 ?_
  refine va_sld hx hb hX hbl hbA hS (z_sc hi hL (n := 2) (by decide) (by decide)) dL_law_1131 ?_
  refine zi a2 ea2.symm ?_
  refine lv_aload_n hx hb dL_law_1132 rfl (lv_at hl 3 rfl) ?_
  refine lv_iload_n hx hb dL_law_1133 rfl (lv_at hl 0 rfl) ?_
  refine lv_iconst (v := 3) hx hb dL_law_1134 (by decide) ?_
  refine lv_iadd hx hb dL_law_1135 ?_
  refine va_sld hx hb hX hbl hbA hS (z_sc hi hL (n := 3) (by decide) (by decide)) dL_law_1136 ?_
  refine zi a3 ea3.symm ?_
  refine lv_aload_n hx hb dL_law_1137 rfl (lv_at hl 3 rfl) ?_
  refine lv_iload_n hx hb dL_law_1138 rfl (lv_at hl 0 rfl) ?_
  refine lv_iconst (v := 4) hx hb dL_law_1139 (by decide) ?_
  refine lv_iadd hx hb dL_law_1140 ?_
  refine va_sld hx hb hX hbl hbA hS (z_sc hi hL (n := 4) (by decide) (by decide)) dL_law_1141 ?_
  refine zi a4 ea4.symm ?_
  refine lv_aload_n hx hb dL_law_1142 rfl (lv_at hl 3 rfl) ?_
  refine lv_iload_n hx hb dL_law_1143 rfl (lv_at hl 0 rfl) ?_
  refine lv_iconst (v := 5) hx hb dL_law_1144 (by decide) ?_
  refine lv_iadd hx hb dL_law_1145 ?_
  refine va_sld hx hb hX hbl hbA hS (z_sc hi hL (n := 5) (by decide) (by decide)) dL_law_1146 ?_
  refine zi a5 ea5.symm ?_
  refine lv_aload_n hx hb dL_law_1147 rfl (lv_at hl 3 rfl) ?_
  refine lv_iload_n hx hb dL_law_1148 rfl (lv_at hl 0 rfl) ?_
  refine lv_bipush (v := 6) hx hb dL_law_1149 (by decide) ?_
  refine lv_iadd hx hb dL_law_1151 ?_
  refine va_sld hx hb hX hbl hbA hS (z_sc hi hL (n := 6) (by decide) (by decide)) dL_law_1152 ?_
  refine zi a6 ea6.symm ?_
  refine lv_aload_n hx hb dL_law_1153 rfl (lv_at hl 3 rfl) ?_
  refine lv_iload_n hx hb dL_law_1154 rfl (lv_at hl 0 rfl) ?_
  refine lv_bipush (v := 7) hx hb dL_law_1155 (by decide) ?_
  refine lv_iadd hx hb dL_law_1157 ?_
  refine va_sld hx hb hX hbl hbA hS (z_sc hi hL (n := 7) (by decide) (by decide)) dL_law_1158 ?_
  refine zi a7 ea7.symm ?_
  refine lv_aload_n hx hb dL_law_1159 rfl (lv_at hl 3 rfl) ?_
  refine lv_iload_n hx hb dL_law_1160 rfl (lv_at hl 0 rfl) ?_
  refine lv_bipush (v := 8) hx hb dL_law_1161 (by decide) ?_
  refine lv_iadd hx hb dL_law_1163 ?_
  refine va_sld hx hb hX hbl hbA hS (z_sc hi hL (n := 8) (by decide) (by decide)) dL_law_1164 ?_
  refine zi a8 ea8.symm ?_
  refine lv_aload_n hx hb dL_law_1165 rfl (lv_at hl 3 rfl) ?_
  refine lv_iload_n hx hb dL_law_1166 rfl (lv_at hl 0 rfl) ?_
  refine lv_bipush (v := 9) hx hb dL_law_1167 (by decide) ?_
  refine lv_iadd hx hb dL_law_1169 ?_
  refine va_sld hx hb hX hbl hbA hS (z_sc hi hL (n := 9) (by decide) (by decide)) dL_law_1170 ?_
  refine zi a9 ea9.symm ?_
  refine z_iL (wa := wx) (wb := wm) (va_runV (As := [.int a1, .int a2, .int a3, .int a4, .int a5, .int a6, .int a7, .int a8, .int a9]) (rest := []) ⟨hx, hb, hml, hown, hts⟩ (wX10_guess l dC dI kA _ x0 a1 a2 a3 a4 a5 a6 a7 a8 a9 hX0 hgd hxt) (cwV 9 hts gL_law_X10_guess rfl rfl rfl ⟨rfl, hdX10_guess⟩ ⟨(Nat.le_of_ble_eq_true rfl), (Nat.le_of_ble_eq_true rfl)⟩) ⟨zPc.blind, XOK_rec hK hX0 hP, zPre hK (wl_P hP) (wl_D hD)⟩ rfl rfl hl.1 rfl (lv_room (Nat.le_of_ble_eq_true rfl)) dL_law_1171 ⟨hc1, hs1⟩) hP hD hS hA (fun r1 w1 H locs hw1 hP hD hS => ?_)
  refine lv_pop hx hb dL_law_1174 rfl ?_
  refine lv_aload_n hx hb dL_law_1175 rfl (lv_at hl 1 rfl) ?_
  refine lv_aload_n hx hb dL_law_1176 rfl (lv_at hl 3 rfl) ?_
  refine lv_iload_n hx hb dL_law_1177 rfl (lv_at hl 0 rfl) ?_
  refine lv_iconst (v := 1) hx hb dL_law_1178 (by decide) ?_
  refine lv_iadd hx hb dL_law_1179 ?_
  refine va_sld hx hb hX hbl hbA hS (z_sc hi hL (n := 1) (by decide) (by decide)) dL_law_1180 ?_
  refine zi a1 ea1.symm ?_
  refine lv_aload_n hx hb dL_law_1181 rfl (lv_at hl 3 rfl) ?_
  refine lv_iload_n hx hb dL_law_1182 rfl (lv_at hl 0 rfl) ?_
  refine lv_iconst (v := 2) hx hb dL_law_1183 (by decide) ?_
  refine lv_iadd hx hb dL_law_1184 ?_
  refine va_sld hx hb hX hbl hbA hS (z_sc hi hL (n := 2) (by decide) (by decide)) dL_law_1185 ?_
  refine zi a2 ea2.symm ?_
  refine lv_aload_n hx hb dL_law_1186 rfl (lv_at hl 3 rfl) ?_
  refine lv_iload_n hx hb dL_law_1187 rfl (lv_at hl 0 rfl) ?_
  refine lv_iconst (v := 3) hx hb dL_law_1188 (by decide) ?_
  refine lv_iadd hx hb dL_law_1189 ?_
  refine va_sld hx hb hX hbl hbA hS (z_sc hi hL (n := 3) (by decide) (by decide)) dL_law_1190 ?_
  refine zi a3 ea3.symm ?_
  refine lv_aload_n hx hb dL_law_1191 rfl (lv_at hl 3 rfl) ?_
  refine lv_iload_n hx hb dL_law_1192 rfl (lv_at hl 0 rfl) ?_
  refine lv_iconst (v := 4) hx hb dL_law_1193 (by decide) ?_
  refine lv_iadd hx hb dL_law_1194 ?_
  refine va_sld hx hb hX hbl hbA hS (z_sc hi hL (n := 4) (by decide) (by decide)) dL_law_1195 ?_
  refine zi a4 ea4.symm ?_
  refine lv_aload_n hx hb dL_law_1196 rfl (lv_at hl 3 rfl) ?_
  refine lv_iload_n hx hb dL_law_1197 rfl (lv_at hl 0 rfl) ?_
  refine lv_iconst (v := 5) hx hb dL_law_1198 (by decide) ?_
  refine lv_iadd hx hb dL_law_1199 ?_
  refine va_sld hx hb hX hbl hbA hS (z_sc hi hL (n := 5) (by decide) (by decide)) dL_law_1200 ?_
  refine zi a5 ea5.symm ?_
  refine lv_aload_n hx hb dL_law_1201 rfl (lv_at hl 3 rfl) ?_
  refine lv_iload_n hx hb dL_law_1202 rfl (lv_at hl 0 rfl) ?_
  refine lv_bipush (v := 6) hx hb dL_law_1203 (by decide) ?_
  refine lv_iadd hx hb dL_law_1205 ?_
  refine va_sld hx hb hX hbl hbA hS (z_sc hi hL (n := 6) (by decide) (by decide)) dL_law_1206 ?_
  refine zi a6 ea6.symm ?_
  refine lv_aload_n hx hb dL_law_1207 rfl (lv_at hl 3 rfl) ?_
  refine lv_iload_n hx hb dL_law_1208 rfl (lv_at hl 0 rfl) ?_
  refine lv_bipush (v := 7) hx hb dL_law_1209 (by decide) ?_
  refine lv_iadd hx hb dL_law_1211 ?_
  refine va_sld hx hb hX hbl hbA hS (z_sc hi hL (n := 7) (by decide) (by decide)) dL_law_1212 ?_
  refine zi a7 ea7.symm ?_
  refine lv_aload_n hx hb dL_law_1213 rfl (lv_at hl 3 rfl) ?_
  refine lv_iload_n hx hb dL_law_1214 rfl (lv_at hl 0 rfl) ?_
  refine lv_bipush (v := 8) hx hb dL_law_1215 (by decide) ?_
  refine lv_iadd hx hb dL_law_1217 ?_
  refine va_sld hx hb hX hbl hbA hS (z_sc hi hL (n := 8) (by decide) (by decide)) dL_law_1218 ?_
  refine zi a8 ea8.symm ?_
  refine lv_aload_n hx hb dL_law_1219 rfl (lv_at hl 3 rfl) ?_
  refine lv_iload_n hx hb dL_law_1220 rfl (lv_at hl 0 rfl) ?_
  refine lv_bipush (v := 9) hx hb dL_law_1221 (by decide) ?_
  refine lv_iadd hx hb dL_law_1223 ?_
  refine va_sld hx hb hX hbl hbA hS (z_sc hi hL (n := 9) (by decide) (by decide)) dL_law_1224 ?_
  refine zi a9 ea9.symm ?_
  refine z_iL (wa := wm) (wb := w1) (va_runV (As := [.int a1, .int a2, .int a3, .int a4, .int a5, .int a6, .int a7, .int a8, .int a9]) (rest := []) ⟨hx, hb, hml, hown, hts⟩ (wX11_guess l dC dI kA _ n0 a1 a2 a3 a4 a5 a6 a7 a8 a9 hM0) (cwV 9 hts gL_law_X11_guess rfl rfl rfl ⟨rfl, hdX11_guess⟩ ⟨(Nat.le_of_ble_eq_true rfl), (Nat.le_of_ble_eq_true rfl)⟩) ⟨zPc.blind, MOK_rec hK hM0 (wp_P hP List.perm_append_comm), zPre hK (wl_P (wp_P hP List.perm_append_comm)) (wl_D (wp_D hD List.perm_append_comm))⟩ rfl rfl hl.1 rfl (lv_room (Nat.le_of_ble_eq_true rfl)) dL_law_1225 ⟨hc2, hs2⟩) (wp_P hP List.perm_append_comm) (wp_D hD List.perm_append_comm) hS hA (fun r2 w2 H locs hw2 hP hD hS => ?_)
  have hP := wp_P hP (List.perm_append_comm)
  have hD := wp_D hD (List.perm_append_comm)
  refine lv_pop hx hb dL_law_1228 rfl ?_
  refine lv_goto (tgt := 1730) hx hb dL_law_1229 (by decide) ?_
  refine W.widen (k := cells + 40) (n := slots + 2000) (by omega) (by omega) ?_
  exact kk w1 w2 H locs ls ⟨_, _, _, hw1, hw2⟩ hP hD hS hl
set_option maxHeartbeats 4000000 in
set_option maxRecDepth 100000 in
theorem law_c24 {p : Program} {l : Launch} {e : Env} {s : State} {m : MethodId} {below : List Frame} {meth : Method} {c : Code} {b L : Nat} {xs : Nat → Int32} {dC : Nat → ClassId} {dI : Nat → Nat → Nat} {kA : Nat → ClassId} {aS vS : Nat} {oS : Option Nat} {x0 n0 : Nat} (C0 : lw_At p s m meth c b L xs) (hL : L ≤ 5120) (hK : zK dC dI kA s) (hZ : zStr aS vS oS (fun q : Nat => s.heap.size ≤ q) s s.heap) {i : Int32} (hi : 0 ≤ i.toInt ∧ i.toInt + 10 ≤ L) {cells slots : Nat} (hc : cells + 40 ≤ 600000) (hs : slots + 2000 ≤ 7302249) (kk : ∀ (wx wm : va_W) (H : Heap) (locs : List Loc) (ls : Array Slot), LInv kA x0 n0 wx wm → va_P (dC, dI) vwCl (wx ++ wm) H → va_D (fun q : Nat => s.heap.size ≤ q) (wx ++ wm) → va_S (fun q : Nat => s.heap.size ≤ q) s.heap H locs → lv_has ls 4 [(3, .int i), (2, .ref n0), (1, .ref x0), (0, .ref b)] → W p l e room_1 s m #[Value.ref b] below meth c H locs (cells + 40) (slots + 2000) (lw_Z below #[Value.ref b] s) (F0 m 1730 ls [])) (wx wm : va_W) (H : Heap) (locs : List Loc) (ls : Array Slot) (hI : LInv kA x0 n0 wx wm) (hP : va_P (dC, dI) vwCl (wx ++ wm) H) (hD : va_D (fun q : Nat => s.heap.size ≤ q) (wx ++ wm)) (hS : va_S (fun q : Nat => s.heap.size ≤ q) s.heap H locs) (hl : lv_has ls 4 [(3, .int i), (2, .ref n0), (1, .ref x0), (0, .ref b)]) : W p l e room_1 s m #[Value.ref b] below meth c H locs cells slots (lw_Z below #[Value.ref b] s) (F0 m 1232 ls []) := by
  obtain ⟨hx, hb, hr, hml, hown0, hts0, hX, hbl, hlocks, hgv⟩ := C0
  have hown : s.vm.findClass RL = some m.cls := hown0
  have hts : ∀ w ∈ wsL_law, w.before #[Value.ref b] s = true := fun w h => hts0 w (wsL_law_in w h)
  have hA : ∀ q : Nat, s.heap.size ≤ q → (fun q : Nat => s.heap.size ≤ q) q := fun _ h => h
  have hbA : ¬ (fun q : Nat => s.heap.size ≤ q) b := Nat.not_le.mpr hbl
  obtain ⟨S_, LL, im, hX0, hM0⟩ := hI
  have hgd := MOK4_gd hM0
  have hxt := MOK4_xt hM0
  have hgr := MOK4_gr hM0
  have hgx := MOK4_gx hM0
  have hc1 : cells + 20 ≤ room_1.cells := by show cells + 20 ≤ 600000; omega
  have hs1 : slots + 1000 ≤ room_1.slots := by show slots + 1000 ≤ 7302249; omega
  have hc2 : cells + 20 + 20 ≤ room_1.cells := by show cells + 20 + 20 ≤ 600000; omega
  have hs2 : slots + 1000 + 1000 ≤ room_1.slots := by show slots + 1000 + 1000 ≤ 7302249; omega
  obtain ⟨a1, ea1⟩ : ∃ y : Int32, y = xs (i + 1).toNatClampNeg := ⟨_, rfl⟩
  obtain ⟨a2, ea2⟩ : ∃ y : Int32, y = xs (i + 2).toNatClampNeg := ⟨_, rfl⟩
  obtain ⟨a3, ea3⟩ : ∃ y : Int32, y = xs (i + 3).toNatClampNeg := ⟨_, rfl⟩
  obtain ⟨a4, ea4⟩ : ∃ y : Int32, y = xs (i + 4).toNatClampNeg := ⟨_, rfl⟩
  refine lv_aload_n hx hb dL_law_1232 rfl (lv_at hl 2 rfl) ?_
  refine lv_aload_n hx hb dL_law_1233 rfl (lv_at hl 3 rfl) ?_
  refine lv_iload_n hx hb dL_law_1234 rfl (lv_at hl 0 rfl) ?_
  refine lv_iconst (v := 1) hx hb dL_law_1235 (by decide) ?_
  refine lv_iadd hx hb dL_law_1236 ?_
  refine va_sld hx hb hX hbl hbA hS (z_sc hi hL (n := 1) (by decide) (by decide)) dL_law_1237 ?_
  refine zi a1 ea1.symm ?_
  refine lv_aload_n hx hb dL_law_1238 rfl (lv_at hl 3 rfl) ?_
  refine lv_iload_n hx hb dL_law_1239 rfl (lv_at hl 0 rfl) ?_
  refine lv_iconst (v := 2) hx hb dL_law_1240 (by decide) ?_
  refine lv_iadd hx hb dL_law_1241 ?_
  refine va_sld hx hb hX hbl hbA hS (z_sc hi hL (n := 2) (by decide) (by decide)) dL_law_1242 ?_
  refine zi a2 ea2.symm ?_
  refine lv_aload_n hx hb dL_law_1243 rfl (lv_at hl 3 rfl) ?_
  refine lv_iload_n hx hb dL_law_1244 rfl (lv_at hl 0 rfl) ?_
  refine lv_iconst (v := 3) hx hb dL_law_1245 (by decide) ?_
  refine lv_iadd hx hb dL_law_1246 ?_
  refine va_sld hx hb hX hbl hbA hS (z_sc hi hL (n := 3) (by decide) (by decide)) dL_law_1247 ?_
  refine zi a3 ea3.symm ?_
  refine lv_aload_n hx hb dL_law_1248 rfl (lv_at hl 3 rfl) ?_
  refine lv_iload_n hx hb dL_law_1249 rfl (lv_at hl 0 rfl) ?_
  refine lv_iconst (v := 4) hx hb dL_law_1250 (by decide) ?_
  refine lv_iadd hx hb dL_law_1251 ?_
  refine va_sld hx hb hX hbl hbA hS (z_sc hi hL (n := 4) (by decide) (by decide)) dL_law_1252 ?_
  refine zi a4 ea4.symm ?_
  refine z_iL (wa := wx) (wb := wm) (va_runV (As := [.int a1, .int a2, .int a3, .int a4]) (rest := []) ⟨hx, hb, hml, hown, hts⟩ (wX10_order l dC dI kA _ x0 a1 a2 a3 a4 hX0 hgd hxt) (cwV 4 hts gL_law_X10_order rfl rfl rfl ⟨rfl, hdX10_order⟩ ⟨(Nat.le_of_ble_eq_true rfl), (Nat.le_of_ble_eq_true rfl)⟩) ⟨zPc.blind, XOK_rec hK hX0 hP, zPre hK (wl_P hP) (wl_D hD)⟩ rfl rfl hl.1 rfl (lv_room (Nat.le_of_ble_eq_true rfl)) dL_law_1253 ⟨hc1, hs1⟩) hP hD hS hA (fun r1 w1 H locs hw1 hP hD hS => ?_)
  refine lv_pop hx hb dL_law_1256 rfl ?_
  refine lv_aload_n hx hb dL_law_1257 rfl (lv_at hl 1 rfl) ?_
  refine lv_aload_n hx hb dL_law_1258 rfl (lv_at hl 3 rfl) ?_
  refine lv_iload_n hx hb dL_law_1259 rfl (lv_at hl 0 rfl) ?_
  refine lv_iconst (v := 1) hx hb dL_law_1260 (by decide) ?_
  refine lv_iadd hx hb dL_law_1261 ?_
  refine va_sld hx hb hX hbl hbA hS (z_sc hi hL (n := 1) (by decide) (by decide)) dL_law_1262 ?_
  refine zi a1 ea1.symm ?_
  refine lv_aload_n hx hb dL_law_1263 rfl (lv_at hl 3 rfl) ?_
  refine lv_iload_n hx hb dL_law_1264 rfl (lv_at hl 0 rfl) ?_
  refine lv_iconst (v := 2) hx hb dL_law_1265 (by decide) ?_
  refine lv_iadd hx hb dL_law_1266 ?_
  refine va_sld hx hb hX hbl hbA hS (z_sc hi hL (n := 2) (by decide) (by decide)) dL_law_1267 ?_
  refine zi a2 ea2.symm ?_
  refine lv_aload_n hx hb dL_law_1268 rfl (lv_at hl 3 rfl) ?_
  refine lv_iload_n hx hb dL_law_1269 rfl (lv_at hl 0 rfl) ?_
  refine lv_iconst (v := 3) hx hb dL_law_1270 (by decide) ?_
  refine lv_iadd hx hb dL_law_1271 ?_
  refine va_sld hx hb hX hbl hbA hS (z_sc hi hL (n := 3) (by decide) (by decide)) dL_law_1272 ?_
  refine zi a3 ea3.symm ?_
  refine lv_aload_n hx hb dL_law_1273 rfl (lv_at hl 3 rfl) ?_
  refine lv_iload_n hx hb dL_law_1274 rfl (lv_at hl 0 rfl) ?_
  refine lv_iconst (v := 4) hx hb dL_law_1275 (by decide) ?_
  refine lv_iadd hx hb dL_law_1276 ?_
  refine va_sld hx hb hX hbl hbA hS (z_sc hi hL (n := 4) (by decide) (by decide)) dL_law_1277 ?_
  refine zi a4 ea4.symm ?_
  refine z_iL (wa := wm) (wb := w1) (va_runV (As := [.int a1, .int a2, .int a3, .int a4]) (rest := []) ⟨hx, hb, hml, hown, hts⟩ (wX11_order l dC dI kA _ n0 a1 a2 a3 a4 hM0) (cwV 4 hts gL_law_X11_order rfl rfl rfl ⟨rfl, hdX11_order⟩ ⟨(Nat.le_of_ble_eq_true rfl), (Nat.le_of_ble_eq_true rfl)⟩) ⟨zPc.blind, MOK_rec hK hM0 (wp_P hP List.perm_append_comm), zPre hK (wl_P (wp_P hP List.perm_append_comm)) (wl_D (wp_D hD List.perm_append_comm))⟩ rfl rfl hl.1 rfl (lv_room (Nat.le_of_ble_eq_true rfl)) dL_law_1278 ⟨hc2, hs2⟩) (wp_P hP List.perm_append_comm) (wp_D hD List.perm_append_comm) hS hA (fun r2 w2 H locs hw2 hP hD hS => ?_)
  have hP := wp_P hP (List.perm_append_comm)
  have hD := wp_D hD (List.perm_append_comm)
  refine lv_pop hx hb dL_law_1281 rfl ?_
  refine lv_goto (tgt := 1730) hx hb dL_law_1282 (by decide) ?_
  refine W.widen (k := cells + 40) (n := slots + 2000) (by omega) (by omega) ?_
  exact kk w1 w2 H locs ls ⟨_, _, _, hw1.2, hw2.2⟩ hP hD hS hl
set_option maxHeartbeats 4000000 in
set_option maxRecDepth 100000 in
theorem law_c25 {p : Program} {l : Launch} {e : Env} {s : State} {m : MethodId} {below : List Frame} {meth : Method} {c : Code} {b L : Nat} {xs : Nat → Int32} {dC : Nat → ClassId} {dI : Nat → Nat → Nat} {kA : Nat → ClassId} {aS vS : Nat} {oS : Option Nat} {x0 n0 : Nat} (C0 : lw_At p s m meth c b L xs) (hL : L ≤ 5120) (hK : zK dC dI kA s) (hZ : zStr aS vS oS (fun q : Nat => s.heap.size ≤ q) s s.heap) {i : Int32} (hi : 0 ≤ i.toInt ∧ i.toInt + 10 ≤ L) {cells slots : Nat} (hc : cells + 40 ≤ 600000) (hs : slots + 2000 ≤ 7302249) (kk : ∀ (wx wm : va_W) (H : Heap) (locs : List Loc) (ls : Array Slot), LInv kA x0 n0 wx wm → va_P (dC, dI) vwCl (wx ++ wm) H → va_D (fun q : Nat => s.heap.size ≤ q) (wx ++ wm) → va_S (fun q : Nat => s.heap.size ≤ q) s.heap H locs → lv_has ls 4 [(3, .int i), (2, .ref n0), (1, .ref x0), (0, .ref b)] → W p l e room_1 s m #[Value.ref b] below meth c H locs (cells + 40) (slots + 2000) (lw_Z below #[Value.ref b] s) (F0 m 1730 ls [])) (wx wm : va_W) (H : Heap) (locs : List Loc) (ls : Array Slot) (hI : LInv kA x0 n0 wx wm) (hP : va_P (dC, dI) vwCl (wx ++ wm) H) (hD : va_D (fun q : Nat => s.heap.size ≤ q) (wx ++ wm)) (hS : va_S (fun q : Nat => s.heap.size ≤ q) s.heap H locs) (hl : lv_has ls 4 [(3, .int i), (2, .ref n0), (1, .ref x0), (0, .ref b)]) : W p l e room_1 s m #[Value.ref b] below meth c H locs cells slots (lw_Z below #[Value.ref b] s) (F0 m 1285 ls []) := by
  obtain ⟨hx, hb, hr, hml, hown0, hts0, hX, hbl, hlocks, hgv⟩ := C0
  have hown : s.vm.findClass RL = some m.cls := hown0
  have hts : ∀ w ∈ wsL_law, w.before #[Value.ref b] s = true := fun w h => hts0 w (wsL_law_in w h)
  have hA : ∀ q : Nat, s.heap.size ≤ q → (fun q : Nat => s.heap.size ≤ q) q := fun _ h => h
  have hbA : ¬ (fun q : Nat => s.heap.size ≤ q) b := Nat.not_le.mpr hbl
  obtain ⟨S_, LL, im, hX0, hM0⟩ := hI
  have hgd := MOK4_gd hM0
  have hxt := MOK4_xt hM0
  have hgr := MOK4_gr hM0
  have hgx := MOK4_gx hM0
  have hc1 : cells + 20 ≤ room_1.cells := by show cells + 20 ≤ 600000; omega
  have hs1 : slots + 1000 ≤ room_1.slots := by show slots + 1000 ≤ 7302249; omega
  have hc2 : cells + 20 + 20 ≤ room_1.cells := by show cells + 20 + 20 ≤ 600000; omega
  have hs2 : slots + 1000 + 1000 ≤ room_1.slots := by show slots + 1000 + 1000 ≤ 7302249; omega
  obtain ⟨a1, ea1⟩ : ∃ y : Int32, y = xs (i + 1).toNatClampNeg := ⟨_, rfl⟩
  obtain ⟨a2, ea2⟩ : ∃ y : Int32, y = xs (i + 2).toNatClampNeg := ⟨_, rfl⟩
  obtain ⟨a3, ea3⟩ : ∃ y : Int32, y = xs (i + 3).toNatClampNeg := ⟨_, rfl⟩
  refine lv_aload_n hx hb dL_law_1285 rfl (lv_at hl 2 rfl) ?_
  refine lv_aload_n hx hb dL_law_1286 rfl (lv_at hl 3 rfl) ?_
  refine lv_iload_n hx hb dL_law_1287 rfl (lv_at hl 0 rfl) ?_
  refine lv_iconst (v := 1) hx hb dL_law_1288 (by decide) ?_
  refine lv_iadd hx hb dL_law_1289 ?_
  refine va_sld hx hb hX hbl hbA hS (z_sc hi hL (n := 1) (by decide) (by decide)) dL_law_1290 ?_
  refine zi a1 ea1.symm ?_
  refine lv_aload_n hx hb dL_law_1291 rfl (lv_at hl 3 rfl) ?_
  refine lv_iload_n hx hb dL_law_1292 rfl (lv_at hl 0 rfl) ?_
  refine lv_iconst (v := 2) hx hb dL_law_1293 (by decide) ?_
  refine lv_iadd hx hb dL_law_1294 ?_
  refine va_sld hx hb hX hbl hbA hS (z_sc hi hL (n := 2) (by decide) (by decide)) dL_law_1295 ?_
  refine zi a2 ea2.symm ?_
  refine lv_aload_n hx hb dL_law_1296 rfl (lv_at hl 3 rfl) ?_
  refine lv_iload_n hx hb dL_law_1297 rfl (lv_at hl 0 rfl) ?_
  refine lv_iconst (v := 3) hx hb dL_law_1298 (by decide) ?_
  refine lv_iadd hx hb dL_law_1299 ?_
  refine va_sld hx hb hX hbl hbA hS (z_sc hi hL (n := 3) (by decide) (by decide)) dL_law_1300 ?_
  refine zi a3 ea3.symm ?_
  refine z_iL (wa := wx) (wb := wm) (va_runV (As := [.int a1, .int a2, .int a3]) (rest := []) ⟨hx, hb, hml, hown, hts⟩ (wX10_serves l dC dI kA _ x0 a1 a2 a3 hX0 hgd hxt) (cwV 3 hts gL_law_X10_serves rfl rfl rfl ⟨rfl, hdX10_serves⟩ ⟨(Nat.le_of_ble_eq_true rfl), (Nat.le_of_ble_eq_true rfl)⟩) ⟨zPc.blind, XOK_rec hK hX0 hP, zPre hK (wl_P hP) (wl_D hD)⟩ rfl rfl hl.1 rfl (lv_room (Nat.le_of_ble_eq_true rfl)) dL_law_1301 ⟨hc1, hs1⟩) hP hD hS hA (fun r1 w1 H locs hw1 hP hD hS => ?_)
  refine lv_pop hx hb dL_law_1304 rfl ?_
  refine lv_aload_n hx hb dL_law_1305 rfl (lv_at hl 1 rfl) ?_
  refine lv_aload_n hx hb dL_law_1306 rfl (lv_at hl 3 rfl) ?_
  refine lv_iload_n hx hb dL_law_1307 rfl (lv_at hl 0 rfl) ?_
  refine lv_iconst (v := 1) hx hb dL_law_1308 (by decide) ?_
  refine lv_iadd hx hb dL_law_1309 ?_
  refine va_sld hx hb hX hbl hbA hS (z_sc hi hL (n := 1) (by decide) (by decide)) dL_law_1310 ?_
  refine zi a1 ea1.symm ?_
  refine lv_aload_n hx hb dL_law_1311 rfl (lv_at hl 3 rfl) ?_
  refine lv_iload_n hx hb dL_law_1312 rfl (lv_at hl 0 rfl) ?_
  refine lv_iconst (v := 2) hx hb dL_law_1313 (by decide) ?_
  refine lv_iadd hx hb dL_law_1314 ?_
  refine va_sld hx hb hX hbl hbA hS (z_sc hi hL (n := 2) (by decide) (by decide)) dL_law_1315 ?_
  refine zi a2 ea2.symm ?_
  refine lv_aload_n hx hb dL_law_1316 rfl (lv_at hl 3 rfl) ?_
  refine lv_iload_n hx hb dL_law_1317 rfl (lv_at hl 0 rfl) ?_
  refine lv_iconst (v := 3) hx hb dL_law_1318 (by decide) ?_
  refine lv_iadd hx hb dL_law_1319 ?_
  refine va_sld hx hb hX hbl hbA hS (z_sc hi hL (n := 3) (by decide) (by decide)) dL_law_1320 ?_
  refine zi a3 ea3.symm ?_
  refine z_iL (wa := wm) (wb := w1) (va_runV (As := [.int a1, .int a2, .int a3]) (rest := []) ⟨hx, hb, hml, hown, hts⟩ (wX11_serves l dC dI kA _ n0 a1 a2 a3 hM0) (cwV 3 hts gL_law_X11_serves rfl rfl rfl ⟨rfl, hdX11_serves⟩ ⟨(Nat.le_of_ble_eq_true rfl), (Nat.le_of_ble_eq_true rfl)⟩) ⟨zPc.blind, MOK_rec hK hM0 (wp_P hP List.perm_append_comm), zPre hK (wl_P (wp_P hP List.perm_append_comm)) (wl_D (wp_D hD List.perm_append_comm))⟩ rfl rfl hl.1 rfl (lv_room (Nat.le_of_ble_eq_true rfl)) dL_law_1321 ⟨hc2, hs2⟩) (wp_P hP List.perm_append_comm) (wp_D hD List.perm_append_comm) hS hA (fun r2 w2 H locs hw2 hP hD hS => ?_)
  have hP := wp_P hP (List.perm_append_comm)
  have hD := wp_D hD (List.perm_append_comm)
  refine lv_pop hx hb dL_law_1324 rfl ?_
  refine lv_goto (tgt := 1730) hx hb dL_law_1325 (by decide) ?_
  refine W.widen (k := cells + 40) (n := slots + 2000) (by omega) (by omega) ?_
  exact kk w1 w2 H locs ls ⟨_, _, _, hw1, hw2⟩ hP hD hS hl
set_option maxHeartbeats 4000000 in
set_option maxRecDepth 100000 in
theorem law_c26 {p : Program} {l : Launch} {e : Env} {s : State} {m : MethodId} {below : List Frame} {meth : Method} {c : Code} {b L : Nat} {xs : Nat → Int32} {dC : Nat → ClassId} {dI : Nat → Nat → Nat} {kA : Nat → ClassId} {aS vS : Nat} {oS : Option Nat} {x0 n0 : Nat} (C0 : lw_At p s m meth c b L xs) (hL : L ≤ 5120) (hK : zK dC dI kA s) (hZ : zStr aS vS oS (fun q : Nat => s.heap.size ≤ q) s s.heap) {i : Int32} (hi : 0 ≤ i.toInt ∧ i.toInt + 10 ≤ L) {cells slots : Nat} (hc : cells + 40 ≤ 600000) (hs : slots + 2000 ≤ 7302249) (kk : ∀ (wx wm : va_W) (H : Heap) (locs : List Loc) (ls : Array Slot), LInv kA x0 n0 wx wm → va_P (dC, dI) vwCl (wx ++ wm) H → va_D (fun q : Nat => s.heap.size ≤ q) (wx ++ wm) → va_S (fun q : Nat => s.heap.size ≤ q) s.heap H locs → lv_has ls 4 [(3, .int i), (2, .ref n0), (1, .ref x0), (0, .ref b)] → W p l e room_1 s m #[Value.ref b] below meth c H locs (cells + 40) (slots + 2000) (lw_Z below #[Value.ref b] s) (F0 m 1730 ls [])) (wx wm : va_W) (H : Heap) (locs : List Loc) (ls : Array Slot) (hI : LInv kA x0 n0 wx wm) (hP : va_P (dC, dI) vwCl (wx ++ wm) H) (hD : va_D (fun q : Nat => s.heap.size ≤ q) (wx ++ wm)) (hS : va_S (fun q : Nat => s.heap.size ≤ q) s.heap H locs) (hl : lv_has ls 4 [(3, .int i), (2, .ref n0), (1, .ref x0), (0, .ref b)]) : W p l e room_1 s m #[Value.ref b] below meth c H locs cells slots (lw_Z below #[Value.ref b] s) (F0 m 1328 ls []) := by
  obtain ⟨hx, hb, hr, hml, hown0, hts0, hX, hbl, hlocks, hgv⟩ := C0
  have hown : s.vm.findClass RL = some m.cls := hown0
  have hts : ∀ w ∈ wsL_law, w.before #[Value.ref b] s = true := fun w h => hts0 w (wsL_law_in w h)
  have hA : ∀ q : Nat, s.heap.size ≤ q → (fun q : Nat => s.heap.size ≤ q) q := fun _ h => h
  have hbA : ¬ (fun q : Nat => s.heap.size ≤ q) b := Nat.not_le.mpr hbl
  obtain ⟨S_, LL, im, hX0, hM0⟩ := hI
  have hgd := MOK4_gd hM0
  have hxt := MOK4_xt hM0
  have hgr := MOK4_gr hM0
  have hgx := MOK4_gx hM0
  have hc1 : cells + 20 ≤ room_1.cells := by show cells + 20 ≤ 600000; omega
  have hs1 : slots + 1000 ≤ room_1.slots := by show slots + 1000 ≤ 7302249; omega
  have hc2 : cells + 20 + 20 ≤ room_1.cells := by show cells + 20 + 20 ≤ 600000; omega
  have hs2 : slots + 1000 + 1000 ≤ room_1.slots := by show slots + 1000 + 1000 ≤ 7302249; omega
  obtain ⟨a1, ea1⟩ : ∃ y : Int32, y = xs (i + 1).toNatClampNeg := ⟨_, rfl⟩
  obtain ⟨a2, ea2⟩ : ∃ y : Int32, y = xs (i + 2).toNatClampNeg := ⟨_, rfl⟩
  refine lv_aload_n hx hb dL_law_1328 rfl (lv_at hl 2 rfl) ?_
  refine lv_aload_n hx hb dL_law_1329 rfl (lv_at hl 3 rfl) ?_
  refine lv_iload_n hx hb dL_law_1330 rfl (lv_at hl 0 rfl) ?_
  refine lv_iconst (v := 1) hx hb dL_law_1331 (by decide) ?_
  refine lv_iadd hx hb dL_law_1332 ?_
  refine va_sld hx hb hX hbl hbA hS (z_sc hi hL (n := 1) (by decide) (by decide)) dL_law_1333 ?_
  refine zi a1 ea1.symm ?_
  refine lv_aload_n hx hb dL_law_1334 rfl (lv_at hl 3 rfl) ?_
  refine lv_iload_n hx hb dL_law_1335 rfl (lv_at hl 0 rfl) ?_
  refine lv_iconst (v := 2) hx hb dL_law_1336 (by decide) ?_
  refine lv_iadd hx hb dL_law_1337 ?_
  refine va_sld hx hb hX hbl hbA hS (z_sc hi hL (n := 2) (by decide) (by decide)) dL_law_1338 ?_
  refine zi a2 ea2.symm ?_
  refine z_iL (wa := wx) (wb := wm) (va_runV (As := [.int a1, .int a2]) (rest := []) ⟨hx, hb, hml, hown, hts⟩ (wX10_all l dC dI kA _ x0 a1 a2 hX0 hgd hxt) (cwV 2 hts gL_law_X10_all rfl rfl rfl ⟨rfl, hdX10_all⟩ ⟨(Nat.le_of_ble_eq_true rfl), (Nat.le_of_ble_eq_true rfl)⟩) ⟨zPc.blind, XOK_rec hK hX0 hP, zPre hK (wl_P hP) (wl_D hD)⟩ rfl rfl hl.1 rfl (lv_room (Nat.le_of_ble_eq_true rfl)) dL_law_1339 ⟨hc1, hs1⟩) hP hD hS hA (fun r1 w1 H locs hw1 hP hD hS => ?_)
  refine lv_pop hx hb dL_law_1342 rfl ?_
  refine lv_aload_n hx hb dL_law_1343 rfl (lv_at hl 1 rfl) ?_
  refine lv_aload_n hx hb dL_law_1344 rfl (lv_at hl 3 rfl) ?_
  refine lv_iload_n hx hb dL_law_1345 rfl (lv_at hl 0 rfl) ?_
  refine lv_iconst (v := 1) hx hb dL_law_1346 (by decide) ?_
  refine lv_iadd hx hb dL_law_1347 ?_
  refine va_sld hx hb hX hbl hbA hS (z_sc hi hL (n := 1) (by decide) (by decide)) dL_law_1348 ?_
  refine zi a1 ea1.symm ?_
  refine lv_aload_n hx hb dL_law_1349 rfl (lv_at hl 3 rfl) ?_
  refine lv_iload_n hx hb dL_law_1350 rfl (lv_at hl 0 rfl) ?_
  refine lv_iconst (v := 2) hx hb dL_law_1351 (by decide) ?_
  refine lv_iadd hx hb dL_law_1352 ?_
  refine va_sld hx hb hX hbl hbA hS (z_sc hi hL (n := 2) (by decide) (by decide)) dL_law_1353 ?_
  refine zi a2 ea2.symm ?_
  refine z_iL (wa := wm) (wb := w1) (va_runV (As := [.int a1, .int a2]) (rest := []) ⟨hx, hb, hml, hown, hts⟩ (wX11_all l dC dI kA _ n0 a1 a2 hM0) (cwV 2 hts gL_law_X11_all rfl rfl rfl ⟨rfl, hdX11_all⟩ ⟨(Nat.le_of_ble_eq_true rfl), (Nat.le_of_ble_eq_true rfl)⟩) ⟨zPc.blind, MOK_rec hK hM0 (wp_P hP List.perm_append_comm), zPre hK (wl_P (wp_P hP List.perm_append_comm)) (wl_D (wp_D hD List.perm_append_comm))⟩ rfl rfl hl.1 rfl (lv_room (Nat.le_of_ble_eq_true rfl)) dL_law_1354 ⟨hc2, hs2⟩) (wp_P hP List.perm_append_comm) (wp_D hD List.perm_append_comm) hS hA (fun r2 w2 H locs hw2 hP hD hS => ?_)
  have hP := wp_P hP (List.perm_append_comm)
  have hD := wp_D hD (List.perm_append_comm)
  refine lv_pop hx hb dL_law_1357 rfl ?_
  refine lv_goto (tgt := 1730) hx hb dL_law_1358 (by decide) ?_
  refine W.widen (k := cells + 40) (n := slots + 2000) (by omega) (by omega) ?_
  exact kk w1 w2 H locs ls ⟨_, _, _, hw1, hw2⟩ hP hD hS hl
set_option maxHeartbeats 4000000 in
set_option maxRecDepth 100000 in
theorem law_c27 {p : Program} {l : Launch} {e : Env} {s : State} {m : MethodId} {below : List Frame} {meth : Method} {c : Code} {b L : Nat} {xs : Nat → Int32} {dC : Nat → ClassId} {dI : Nat → Nat → Nat} {kA : Nat → ClassId} {aS vS : Nat} {oS : Option Nat} {x0 n0 : Nat} (C0 : lw_At p s m meth c b L xs) (hL : L ≤ 5120) (hK : zK dC dI kA s) (hZ : zStr aS vS oS (fun q : Nat => s.heap.size ≤ q) s s.heap) {i : Int32} (hi : 0 ≤ i.toInt ∧ i.toInt + 10 ≤ L) {cells slots : Nat} (hc : cells + 40 ≤ 600000) (hs : slots + 2000 ≤ 7302249) (kk : ∀ (wx wm : va_W) (H : Heap) (locs : List Loc) (ls : Array Slot), LInv kA x0 n0 wx wm → va_P (dC, dI) vwCl (wx ++ wm) H → va_D (fun q : Nat => s.heap.size ≤ q) (wx ++ wm) → va_S (fun q : Nat => s.heap.size ≤ q) s.heap H locs → lv_has ls 4 [(3, .int i), (2, .ref n0), (1, .ref x0), (0, .ref b)] → W p l e room_1 s m #[Value.ref b] below meth c H locs (cells + 40) (slots + 2000) (lw_Z below #[Value.ref b] s) (F0 m 1730 ls [])) (wx wm : va_W) (H : Heap) (locs : List Loc) (ls : Array Slot) (hI : LInv kA x0 n0 wx wm) (hP : va_P (dC, dI) vwCl (wx ++ wm) H) (hD : va_D (fun q : Nat => s.heap.size ≤ q) (wx ++ wm)) (hS : va_S (fun q : Nat => s.heap.size ≤ q) s.heap H locs) (hl : lv_has ls 4 [(3, .int i), (2, .ref n0), (1, .ref x0), (0, .ref b)]) : W p l e room_1 s m #[Value.ref b] below meth c H locs cells slots (lw_Z below #[Value.ref b] s) (F0 m 1361 ls []) := by
  obtain ⟨hx, hb, hr, hml, hown0, hts0, hX, hbl, hlocks, hgv⟩ := C0
  have hown : s.vm.findClass RL = some m.cls := hown0
  have hts : ∀ w ∈ wsL_law, w.before #[Value.ref b] s = true := fun w h => hts0 w (wsL_law_in w h)
  have hA : ∀ q : Nat, s.heap.size ≤ q → (fun q : Nat => s.heap.size ≤ q) q := fun _ h => h
  have hbA : ¬ (fun q : Nat => s.heap.size ≤ q) b := Nat.not_le.mpr hbl
  obtain ⟨S_, LL, im, hX0, hM0⟩ := hI
  have hgd := MOK4_gd hM0
  have hxt := MOK4_xt hM0
  have hgr := MOK4_gr hM0
  have hgx := MOK4_gx hM0
  have hc1 : cells + 20 ≤ room_1.cells := by show cells + 20 ≤ 600000; omega
  have hs1 : slots + 1000 ≤ room_1.slots := by show slots + 1000 ≤ 7302249; omega
  have hc2 : cells + 20 + 20 ≤ room_1.cells := by show cells + 20 + 20 ≤ 600000; omega
  have hs2 : slots + 1000 + 1000 ≤ room_1.slots := by show slots + 1000 + 1000 ≤ 7302249; omega
  obtain ⟨a1, ea1⟩ : ∃ y : Int32, y = xs (i + 1).toNatClampNeg := ⟨_, rfl⟩
  obtain ⟨a2, ea2⟩ : ∃ y : Int32, y = xs (i + 2).toNatClampNeg := ⟨_, rfl⟩
  obtain ⟨a3, ea3⟩ : ∃ y : Int32, y = xs (i + 3).toNatClampNeg := ⟨_, rfl⟩
  refine lv_aload_n hx hb dL_law_1361 rfl (lv_at hl 2 rfl) ?_
  refine lv_aload_n hx hb dL_law_1362 rfl (lv_at hl 3 rfl) ?_
  refine lv_iload_n hx hb dL_law_1363 rfl (lv_at hl 0 rfl) ?_
  refine lv_iconst (v := 1) hx hb dL_law_1364 (by decide) ?_
  refine lv_iadd hx hb dL_law_1365 ?_
  refine va_sld hx hb hX hbl hbA hS (z_sc hi hL (n := 1) (by decide) (by decide)) dL_law_1366 ?_
  refine zi a1 ea1.symm ?_
  refine lv_aload_n hx hb dL_law_1367 rfl (lv_at hl 3 rfl) ?_
  refine lv_iload_n hx hb dL_law_1368 rfl (lv_at hl 0 rfl) ?_
  refine lv_iconst (v := 2) hx hb dL_law_1369 (by decide) ?_
  refine lv_iadd hx hb dL_law_1370 ?_
  refine va_sld hx hb hX hbl hbA hS (z_sc hi hL (n := 2) (by decide) (by decide)) dL_law_1371 ?_
  refine zi a2 ea2.symm ?_
  refine lv_aload_n hx hb dL_law_1372 rfl (lv_at hl 3 rfl) ?_
  refine lv_iload_n hx hb dL_law_1373 rfl (lv_at hl 0 rfl) ?_
  refine lv_iconst (v := 3) hx hb dL_law_1374 (by decide) ?_
  refine lv_iadd hx hb dL_law_1375 ?_
  refine va_sld hx hb hX hbl hbA hS (z_sc hi hL (n := 3) (by decide) (by decide)) dL_law_1376 ?_
  refine zi a3 ea3.symm ?_
  refine z_iL (wa := wx) (wb := wm) (va_runV (As := [.int a1, .int a2, .int a3]) (rest := []) ⟨hx, hb, hml, hown, hts⟩ (wX10_feast l dC dI kA _ x0 a1 a2 a3 hX0 hgd hxt) (cwV 3 hts gL_law_X10_feast rfl rfl rfl ⟨rfl, hdX10_feast⟩ ⟨(Nat.le_of_ble_eq_true rfl), (Nat.le_of_ble_eq_true rfl)⟩) ⟨zPc.blind, XOK_rec hK hX0 hP, zPre hK (wl_P hP) (wl_D hD)⟩ rfl rfl hl.1 rfl (lv_room (Nat.le_of_ble_eq_true rfl)) dL_law_1377 ⟨hc1, hs1⟩) hP hD hS hA (fun r1 w1 H locs hw1 hP hD hS => ?_)
  refine lv_pop hx hb dL_law_1380 rfl ?_
  refine lv_aload_n hx hb dL_law_1381 rfl (lv_at hl 1 rfl) ?_
  refine lv_aload_n hx hb dL_law_1382 rfl (lv_at hl 3 rfl) ?_
  refine lv_iload_n hx hb dL_law_1383 rfl (lv_at hl 0 rfl) ?_
  refine lv_iconst (v := 1) hx hb dL_law_1384 (by decide) ?_
  refine lv_iadd hx hb dL_law_1385 ?_
  refine va_sld hx hb hX hbl hbA hS (z_sc hi hL (n := 1) (by decide) (by decide)) dL_law_1386 ?_
  refine zi a1 ea1.symm ?_
  refine lv_aload_n hx hb dL_law_1387 rfl (lv_at hl 3 rfl) ?_
  refine lv_iload_n hx hb dL_law_1388 rfl (lv_at hl 0 rfl) ?_
  refine lv_iconst (v := 2) hx hb dL_law_1389 (by decide) ?_
  refine lv_iadd hx hb dL_law_1390 ?_
  refine va_sld hx hb hX hbl hbA hS (z_sc hi hL (n := 2) (by decide) (by decide)) dL_law_1391 ?_
  refine zi a2 ea2.symm ?_
  refine lv_aload_n hx hb dL_law_1392 rfl (lv_at hl 3 rfl) ?_
  refine lv_iload_n hx hb dL_law_1393 rfl (lv_at hl 0 rfl) ?_
  refine lv_iconst (v := 3) hx hb dL_law_1394 (by decide) ?_
  refine lv_iadd hx hb dL_law_1395 ?_
  refine va_sld hx hb hX hbl hbA hS (z_sc hi hL (n := 3) (by decide) (by decide)) dL_law_1396 ?_
  refine zi a3 ea3.symm ?_
  refine z_iL (wa := wm) (wb := w1) (va_runV (As := [.int a1, .int a2, .int a3]) (rest := []) ⟨hx, hb, hml, hown, hts⟩ (wX11_feast l dC dI kA _ n0 a1 a2 a3 hM0) (cwV 3 hts gL_law_X11_feast rfl rfl rfl ⟨rfl, hdX11_feast⟩ ⟨(Nat.le_of_ble_eq_true rfl), (Nat.le_of_ble_eq_true rfl)⟩) ⟨zPc.blind, MOK_rec hK hM0 (wp_P hP List.perm_append_comm), zPre hK (wl_P (wp_P hP List.perm_append_comm)) (wl_D (wp_D hD List.perm_append_comm))⟩ rfl rfl hl.1 rfl (lv_room (Nat.le_of_ble_eq_true rfl)) dL_law_1397 ⟨hc2, hs2⟩) (wp_P hP List.perm_append_comm) (wp_D hD List.perm_append_comm) hS hA (fun r2 w2 H locs hw2 hP hD hS => ?_)
  have hP := wp_P hP (List.perm_append_comm)
  have hD := wp_D hD (List.perm_append_comm)
  refine lv_pop hx hb dL_law_1400 rfl ?_
  refine lv_goto (tgt := 1730) hx hb dL_law_1401 (by decide) ?_
  refine W.widen (k := cells + 40) (n := slots + 2000) (by omega) (by omega) ?_
  exact kk w1 w2 H locs ls ⟨_, _, _, hw1.2, hw2.2⟩ hP hD hS hl
set_option maxHeartbeats 4000000 in
set_option maxRecDepth 100000 in
theorem law_c28 {p : Program} {l : Launch} {e : Env} {s : State} {m : MethodId} {below : List Frame} {meth : Method} {c : Code} {b L : Nat} {xs : Nat → Int32} {dC : Nat → ClassId} {dI : Nat → Nat → Nat} {kA : Nat → ClassId} {aS vS : Nat} {oS : Option Nat} {x0 n0 : Nat} (C0 : lw_At p s m meth c b L xs) (hL : L ≤ 5120) (hK : zK dC dI kA s) (hZ : zStr aS vS oS (fun q : Nat => s.heap.size ≤ q) s s.heap) {i : Int32} (hi : 0 ≤ i.toInt ∧ i.toInt + 10 ≤ L) {cells slots : Nat} (hc : cells + 40 ≤ 600000) (hs : slots + 2000 ≤ 7302249) (kk : ∀ (wx wm : va_W) (H : Heap) (locs : List Loc) (ls : Array Slot), LInv kA x0 n0 wx wm → va_P (dC, dI) vwCl (wx ++ wm) H → va_D (fun q : Nat => s.heap.size ≤ q) (wx ++ wm) → va_S (fun q : Nat => s.heap.size ≤ q) s.heap H locs → lv_has ls 4 [(3, .int i), (2, .ref n0), (1, .ref x0), (0, .ref b)] → W p l e room_1 s m #[Value.ref b] below meth c H locs (cells + 40) (slots + 2000) (lw_Z below #[Value.ref b] s) (F0 m 1730 ls [])) (wx wm : va_W) (H : Heap) (locs : List Loc) (ls : Array Slot) (hI : LInv kA x0 n0 wx wm) (hP : va_P (dC, dI) vwCl (wx ++ wm) H) (hD : va_D (fun q : Nat => s.heap.size ≤ q) (wx ++ wm)) (hS : va_S (fun q : Nat => s.heap.size ≤ q) s.heap H locs) (hl : lv_has ls 4 [(3, .int i), (2, .ref n0), (1, .ref x0), (0, .ref b)]) : W p l e room_1 s m #[Value.ref b] below meth c H locs cells slots (lw_Z below #[Value.ref b] s) (F0 m 1404 ls []) := by
  obtain ⟨hx, hb, hr, hml, hown0, hts0, hX, hbl, hlocks, hgv⟩ := C0
  have hown : s.vm.findClass RL = some m.cls := hown0
  have hts : ∀ w ∈ wsL_law, w.before #[Value.ref b] s = true := fun w h => hts0 w (wsL_law_in w h)
  have hA : ∀ q : Nat, s.heap.size ≤ q → (fun q : Nat => s.heap.size ≤ q) q := fun _ h => h
  have hbA : ¬ (fun q : Nat => s.heap.size ≤ q) b := Nat.not_le.mpr hbl
  obtain ⟨S_, LL, im, hX0, hM0⟩ := hI
  have hgd := MOK4_gd hM0
  have hxt := MOK4_xt hM0
  have hgr := MOK4_gr hM0
  have hgx := MOK4_gx hM0
  have hc1 : cells + 20 ≤ room_1.cells := by show cells + 20 ≤ 600000; omega
  have hs1 : slots + 1000 ≤ room_1.slots := by show slots + 1000 ≤ 7302249; omega
  have hc2 : cells + 20 + 20 ≤ room_1.cells := by show cells + 20 + 20 ≤ 600000; omega
  have hs2 : slots + 1000 + 1000 ≤ room_1.slots := by show slots + 1000 + 1000 ≤ 7302249; omega
  obtain ⟨a1, ea1⟩ : ∃ y : Int32, y = xs (i + 1).toNatClampNeg := ⟨_, rfl⟩
  obtain ⟨a2, ea2⟩ : ∃ y : Int32, y = xs (i + 2).toNatClampNeg := ⟨_, rfl⟩
  obtain ⟨a3, ea3⟩ : ∃ y : Int32, y = xs (i + 3).toNatClampNeg := ⟨_, rfl⟩
  refine lv_aload_n hx hb dL_law_1404 rfl (lv_at hl 2 rfl) ?_
  refine lv_aload_n hx hb dL_law_1405 rfl (lv_at hl 3 rfl) ?_
  refine lv_iload_n hx hb dL_law_1406 rfl (lv_at hl 0 rfl) ?_
  refine lv_iconst (v := 1) hx hb dL_law_1407 (by decide) ?_
  refine lv_iadd hx hb dL_law_1408 ?_
  refine va_sld hx hb hX hbl hbA hS (z_sc hi hL (n := 1) (by decide) (by decide)) dL_law_1409 ?_
  refine zi a1 ea1.symm ?_
  refine lv_aload_n hx hb dL_law_1410 rfl (lv_at hl 3 rfl) ?_
  refine lv_iload_n hx hb dL_law_1411 rfl (lv_at hl 0 rfl) ?_
  refine lv_iconst (v := 2) hx hb dL_law_1412 (by decide) ?_
  refine lv_iadd hx hb dL_law_1413 ?_
  refine va_sld hx hb hX hbl hbA hS (z_sc hi hL (n := 2) (by decide) (by decide)) dL_law_1414 ?_
  refine zi a2 ea2.symm ?_
  refine lv_aload_n hx hb dL_law_1415 rfl (lv_at hl 3 rfl) ?_
  refine lv_iload_n hx hb dL_law_1416 rfl (lv_at hl 0 rfl) ?_
  refine lv_iconst (v := 3) hx hb dL_law_1417 (by decide) ?_
  refine lv_iadd hx hb dL_law_1418 ?_
  refine va_sld hx hb hX hbl hbA hS (z_sc hi hL (n := 3) (by decide) (by decide)) dL_law_1419 ?_
  refine zi a3 ea3.symm ?_
  refine z_iL (wa := wx) (wb := wm) (va_runV (As := [.int a1, .int a2, .int a3]) (rest := []) ⟨hx, hb, hml, hown, hts⟩ (wX10_enough l dC dI kA _ x0 a1 a2 a3 hX0 hgd hxt) (cwV 3 hts gL_law_X10_enough rfl rfl rfl ⟨rfl, hdX10_enough⟩ ⟨(Nat.le_of_ble_eq_true rfl), (Nat.le_of_ble_eq_true rfl)⟩) ⟨zPc.blind, XOK_rec hK hX0 hP, zPre hK (wl_P hP) (wl_D hD)⟩ rfl rfl hl.1 rfl (lv_room (Nat.le_of_ble_eq_true rfl)) dL_law_1420 ⟨hc1, hs1⟩) hP hD hS hA (fun r1 w1 H locs hw1 hP hD hS => ?_)
  refine lv_pop hx hb dL_law_1423 rfl ?_
  refine lv_aload_n hx hb dL_law_1424 rfl (lv_at hl 1 rfl) ?_
  refine lv_aload_n hx hb dL_law_1425 rfl (lv_at hl 3 rfl) ?_
  refine lv_iload_n hx hb dL_law_1426 rfl (lv_at hl 0 rfl) ?_
  refine lv_iconst (v := 1) hx hb dL_law_1427 (by decide) ?_
  refine lv_iadd hx hb dL_law_1428 ?_
  refine va_sld hx hb hX hbl hbA hS (z_sc hi hL (n := 1) (by decide) (by decide)) dL_law_1429 ?_
  refine zi a1 ea1.symm ?_
  refine lv_aload_n hx hb dL_law_1430 rfl (lv_at hl 3 rfl) ?_
  refine lv_iload_n hx hb dL_law_1431 rfl (lv_at hl 0 rfl) ?_
  refine lv_iconst (v := 2) hx hb dL_law_1432 (by decide) ?_
  refine lv_iadd hx hb dL_law_1433 ?_
  refine va_sld hx hb hX hbl hbA hS (z_sc hi hL (n := 2) (by decide) (by decide)) dL_law_1434 ?_
  refine zi a2 ea2.symm ?_
  refine lv_aload_n hx hb dL_law_1435 rfl (lv_at hl 3 rfl) ?_
  refine lv_iload_n hx hb dL_law_1436 rfl (lv_at hl 0 rfl) ?_
  refine lv_iconst (v := 3) hx hb dL_law_1437 (by decide) ?_
  refine lv_iadd hx hb dL_law_1438 ?_
  refine va_sld hx hb hX hbl hbA hS (z_sc hi hL (n := 3) (by decide) (by decide)) dL_law_1439 ?_
  refine zi a3 ea3.symm ?_
  refine z_iL (wa := wm) (wb := w1) (va_runV (As := [.int a1, .int a2, .int a3]) (rest := []) ⟨hx, hb, hml, hown, hts⟩ (wX11_enough l dC dI kA _ n0 a1 a2 a3 hM0) (cwV 3 hts gL_law_X11_enough rfl rfl rfl ⟨rfl, hdX11_enough⟩ ⟨(Nat.le_of_ble_eq_true rfl), (Nat.le_of_ble_eq_true rfl)⟩) ⟨zPc.blind, MOK_rec hK hM0 (wp_P hP List.perm_append_comm), zPre hK (wl_P (wp_P hP List.perm_append_comm)) (wl_D (wp_D hD List.perm_append_comm))⟩ rfl rfl hl.1 rfl (lv_room (Nat.le_of_ble_eq_true rfl)) dL_law_1440 ⟨hc2, hs2⟩) (wp_P hP List.perm_append_comm) (wp_D hD List.perm_append_comm) hS hA (fun r2 w2 H locs hw2 hP hD hS => ?_)
  have hP := wp_P hP (List.perm_append_comm)
  have hD := wp_D hD (List.perm_append_comm)
  refine lv_pop hx hb dL_law_1443 rfl ?_
  refine lv_goto (tgt := 1730) hx hb dL_law_1444 (by decide) ?_
  refine W.widen (k := cells + 40) (n := slots + 2000) (by omega) (by omega) ?_
  exact kk w1 w2 H locs ls ⟨_, _, _, hw1, hw2⟩ hP hD hS hl
set_option maxHeartbeats 4000000 in
set_option maxRecDepth 100000 in
theorem law_c29 {p : Program} {l : Launch} {e : Env} {s : State} {m : MethodId} {below : List Frame} {meth : Method} {c : Code} {b L : Nat} {xs : Nat → Int32} {dC : Nat → ClassId} {dI : Nat → Nat → Nat} {kA : Nat → ClassId} {aS vS : Nat} {oS : Option Nat} {x0 n0 : Nat} (C0 : lw_At p s m meth c b L xs) (hL : L ≤ 5120) (hK : zK dC dI kA s) (hZ : zStr aS vS oS (fun q : Nat => s.heap.size ≤ q) s s.heap) {i : Int32} (hi : 0 ≤ i.toInt ∧ i.toInt + 10 ≤ L) {cells slots : Nat} (hc : cells + 40 ≤ 600000) (hs : slots + 2000 ≤ 7302249) (kk : ∀ (wx wm : va_W) (H : Heap) (locs : List Loc) (ls : Array Slot), LInv kA x0 n0 wx wm → va_P (dC, dI) vwCl (wx ++ wm) H → va_D (fun q : Nat => s.heap.size ≤ q) (wx ++ wm) → va_S (fun q : Nat => s.heap.size ≤ q) s.heap H locs → lv_has ls 4 [(3, .int i), (2, .ref n0), (1, .ref x0), (0, .ref b)] → W p l e room_1 s m #[Value.ref b] below meth c H locs (cells + 40) (slots + 2000) (lw_Z below #[Value.ref b] s) (F0 m 1730 ls [])) (wx wm : va_W) (H : Heap) (locs : List Loc) (ls : Array Slot) (hI : LInv kA x0 n0 wx wm) (hP : va_P (dC, dI) vwCl (wx ++ wm) H) (hD : va_D (fun q : Nat => s.heap.size ≤ q) (wx ++ wm)) (hS : va_S (fun q : Nat => s.heap.size ≤ q) s.heap H locs) (hl : lv_has ls 4 [(3, .int i), (2, .ref n0), (1, .ref x0), (0, .ref b)]) : W p l e room_1 s m #[Value.ref b] below meth c H locs cells slots (lw_Z below #[Value.ref b] s) (F0 m 1447 ls []) := by
  obtain ⟨hx, hb, hr, hml, hown0, hts0, hX, hbl, hlocks, hgv⟩ := C0
  have hown : s.vm.findClass RL = some m.cls := hown0
  have hts : ∀ w ∈ wsL_law, w.before #[Value.ref b] s = true := fun w h => hts0 w (wsL_law_in w h)
  have hA : ∀ q : Nat, s.heap.size ≤ q → (fun q : Nat => s.heap.size ≤ q) q := fun _ h => h
  have hbA : ¬ (fun q : Nat => s.heap.size ≤ q) b := Nat.not_le.mpr hbl
  obtain ⟨S_, LL, im, hX0, hM0⟩ := hI
  have hgd := MOK4_gd hM0
  have hxt := MOK4_xt hM0
  have hgr := MOK4_gr hM0
  have hgx := MOK4_gx hM0
  have hc1 : cells + 20 ≤ room_1.cells := by show cells + 20 ≤ 600000; omega
  have hs1 : slots + 1000 ≤ room_1.slots := by show slots + 1000 ≤ 7302249; omega
  have hc2 : cells + 20 + 20 ≤ room_1.cells := by show cells + 20 + 20 ≤ 600000; omega
  have hs2 : slots + 1000 + 1000 ≤ room_1.slots := by show slots + 1000 + 1000 ≤ 7302249; omega
  obtain ⟨a1, ea1⟩ : ∃ y : Int32, y = xs (i + 1).toNatClampNeg := ⟨_, rfl⟩
  obtain ⟨a2, ea2⟩ : ∃ y : Int32, y = xs (i + 2).toNatClampNeg := ⟨_, rfl⟩
  refine lv_aload_n hx hb dL_law_1447 rfl (lv_at hl 2 rfl) ?_
  refine lv_aload_n hx hb dL_law_1448 rfl (lv_at hl 3 rfl) ?_
  refine lv_iload_n hx hb dL_law_1449 rfl (lv_at hl 0 rfl) ?_
  refine lv_iconst (v := 1) hx hb dL_law_1450 (by decide) ?_
  refine lv_iadd hx hb dL_law_1451 ?_
  refine va_sld hx hb hX hbl hbA hS (z_sc hi hL (n := 1) (by decide) (by decide)) dL_law_1452 ?_
  refine zi a1 ea1.symm ?_
  refine lv_aload_n hx hb dL_law_1453 rfl (lv_at hl 3 rfl) ?_
  refine lv_iload_n hx hb dL_law_1454 rfl (lv_at hl 0 rfl) ?_
  refine lv_iconst (v := 2) hx hb dL_law_1455 (by decide) ?_
  refine lv_iadd hx hb dL_law_1456 ?_
  refine va_sld hx hb hX hbl hbA hS (z_sc hi hL (n := 2) (by decide) (by decide)) dL_law_1457 ?_
  refine zi a2 ea2.symm ?_
  refine z_iL (wa := wx) (wb := wm) (va_runV (As := [.int a1, .int a2]) (rest := []) ⟨hx, hb, hml, hown, hts⟩ (wX10_least l dC dI kA _ x0 a1 a2 hX0 hgd hxt) (cwV 2 hts gL_law_X10_least rfl rfl rfl ⟨rfl, hdX10_least⟩ ⟨(Nat.le_of_ble_eq_true rfl), (Nat.le_of_ble_eq_true rfl)⟩) ⟨zPc.blind, XOK_rec hK hX0 hP, zPre hK (wl_P hP) (wl_D hD)⟩ rfl rfl hl.1 rfl (lv_room (Nat.le_of_ble_eq_true rfl)) dL_law_1458 ⟨hc1, hs1⟩) hP hD hS hA (fun r1 w1 H locs hw1 hP hD hS => ?_)
  refine lv_pop hx hb dL_law_1461 rfl ?_
  refine lv_aload_n hx hb dL_law_1462 rfl (lv_at hl 1 rfl) ?_
  refine lv_aload_n hx hb dL_law_1463 rfl (lv_at hl 3 rfl) ?_
  refine lv_iload_n hx hb dL_law_1464 rfl (lv_at hl 0 rfl) ?_
  refine lv_iconst (v := 1) hx hb dL_law_1465 (by decide) ?_
  refine lv_iadd hx hb dL_law_1466 ?_
  refine va_sld hx hb hX hbl hbA hS (z_sc hi hL (n := 1) (by decide) (by decide)) dL_law_1467 ?_
  refine zi a1 ea1.symm ?_
  refine lv_aload_n hx hb dL_law_1468 rfl (lv_at hl 3 rfl) ?_
  refine lv_iload_n hx hb dL_law_1469 rfl (lv_at hl 0 rfl) ?_
  refine lv_iconst (v := 2) hx hb dL_law_1470 (by decide) ?_
  refine lv_iadd hx hb dL_law_1471 ?_
  refine va_sld hx hb hX hbl hbA hS (z_sc hi hL (n := 2) (by decide) (by decide)) dL_law_1472 ?_
  refine zi a2 ea2.symm ?_
  refine z_iL (wa := wm) (wb := w1) (va_runV (As := [.int a1, .int a2]) (rest := []) ⟨hx, hb, hml, hown, hts⟩ (wX11_least l dC dI kA _ n0 a1 a2 hM0) (cwV 2 hts gL_law_X11_least rfl rfl rfl ⟨rfl, hdX11_least⟩ ⟨(Nat.le_of_ble_eq_true rfl), (Nat.le_of_ble_eq_true rfl)⟩) ⟨zPc.blind, MOK_rec hK hM0 (wp_P hP List.perm_append_comm), zPre hK (wl_P (wp_P hP List.perm_append_comm)) (wl_D (wp_D hD List.perm_append_comm))⟩ rfl rfl hl.1 rfl (lv_room (Nat.le_of_ble_eq_true rfl)) dL_law_1473 ⟨hc2, hs2⟩) (wp_P hP List.perm_append_comm) (wp_D hD List.perm_append_comm) hS hA (fun r2 w2 H locs hw2 hP hD hS => ?_)
  have hP := wp_P hP (List.perm_append_comm)
  have hD := wp_D hD (List.perm_append_comm)
  refine lv_pop hx hb dL_law_1476 rfl ?_
  refine lv_goto (tgt := 1730) hx hb dL_law_1477 (by decide) ?_
  refine W.widen (k := cells + 40) (n := slots + 2000) (by omega) (by omega) ?_
  exact kk w1 w2 H locs ls ⟨_, _, _, hw1, hw2⟩ hP hD hS hl
set_option maxHeartbeats 4000000 in
set_option maxRecDepth 100000 in
theorem law_c30 {p : Program} {l : Launch} {e : Env} {s : State} {m : MethodId} {below : List Frame} {meth : Method} {c : Code} {b L : Nat} {xs : Nat → Int32} {dC : Nat → ClassId} {dI : Nat → Nat → Nat} {kA : Nat → ClassId} {aS vS : Nat} {oS : Option Nat} {x0 n0 : Nat} (C0 : lw_At p s m meth c b L xs) (hL : L ≤ 5120) (hK : zK dC dI kA s) (hZ : zStr aS vS oS (fun q : Nat => s.heap.size ≤ q) s s.heap) {i : Int32} (hi : 0 ≤ i.toInt ∧ i.toInt + 10 ≤ L) {cells slots : Nat} (hc : cells + 40 ≤ 600000) (hs : slots + 2000 ≤ 7302249) (kk : ∀ (wx wm : va_W) (H : Heap) (locs : List Loc) (ls : Array Slot), LInv kA x0 n0 wx wm → va_P (dC, dI) vwCl (wx ++ wm) H → va_D (fun q : Nat => s.heap.size ≤ q) (wx ++ wm) → va_S (fun q : Nat => s.heap.size ≤ q) s.heap H locs → lv_has ls 4 [(3, .int i), (2, .ref n0), (1, .ref x0), (0, .ref b)] → W p l e room_1 s m #[Value.ref b] below meth c H locs (cells + 40) (slots + 2000) (lw_Z below #[Value.ref b] s) (F0 m 1730 ls [])) (wx wm : va_W) (H : Heap) (locs : List Loc) (ls : Array Slot) (hI : LInv kA x0 n0 wx wm) (hP : va_P (dC, dI) vwCl (wx ++ wm) H) (hD : va_D (fun q : Nat => s.heap.size ≤ q) (wx ++ wm)) (hS : va_S (fun q : Nat => s.heap.size ≤ q) s.heap H locs) (hl : lv_has ls 4 [(3, .int i), (2, .ref n0), (1, .ref x0), (0, .ref b)]) : W p l e room_1 s m #[Value.ref b] below meth c H locs cells slots (lw_Z below #[Value.ref b] s) (F0 m 1480 ls []) := by
  obtain ⟨hx, hb, hr, hml, hown0, hts0, hX, hbl, hlocks, hgv⟩ := C0
  have hown : s.vm.findClass RL = some m.cls := hown0
  have hts : ∀ w ∈ wsL_law, w.before #[Value.ref b] s = true := fun w h => hts0 w (wsL_law_in w h)
  have hA : ∀ q : Nat, s.heap.size ≤ q → (fun q : Nat => s.heap.size ≤ q) q := fun _ h => h
  have hbA : ¬ (fun q : Nat => s.heap.size ≤ q) b := Nat.not_le.mpr hbl
  obtain ⟨S_, LL, im, hX0, hM0⟩ := hI
  have hgd := MOK4_gd hM0
  have hxt := MOK4_xt hM0
  have hgr := MOK4_gr hM0
  have hgx := MOK4_gx hM0
  have hc1 : cells + 20 ≤ room_1.cells := by show cells + 20 ≤ 600000; omega
  have hs1 : slots + 1000 ≤ room_1.slots := by show slots + 1000 ≤ 7302249; omega
  have hc2 : cells + 20 + 20 ≤ room_1.cells := by show cells + 20 + 20 ≤ 600000; omega
  have hs2 : slots + 1000 + 1000 ≤ room_1.slots := by show slots + 1000 + 1000 ≤ 7302249; omega
  obtain ⟨a1, ea1⟩ : ∃ y : Int32, y = xs (i + 1).toNatClampNeg := ⟨_, rfl⟩
  obtain ⟨a2, ea2⟩ : ∃ y : Int32, y = xs (i + 2).toNatClampNeg := ⟨_, rfl⟩
  obtain ⟨a3, ea3⟩ : ∃ y : Int32, y = xs (i + 3).toNatClampNeg := ⟨_, rfl⟩
  obtain ⟨a4, ea4⟩ : ∃ y : Int32, y = xs (i + 4).toNatClampNeg := ⟨_, rfl⟩
  obtain ⟨a5, ea5⟩ : ∃ y : Int32, y = xs (i + 5).toNatClampNeg := ⟨_, rfl⟩
  refine lv_aload_n hx hb dL_law_1480 rfl (lv_at hl 2 rfl) ?_
  refine lv_aload_n hx hb dL_law_1481 rfl (lv_at hl 3 rfl) ?_
  refine lv_iload_n hx hb dL_law_1482 rfl (lv_at hl 0 rfl) ?_
  refine lv_iconst (v := 1) hx hb dL_law_1483 (by decide) ?_
  refine lv_iadd hx hb dL_law_1484 ?_
  refine va_sld hx hb hX hbl hbA hS (z_sc hi hL (n := 1) (by decide) (by decide)) dL_law_1485 ?_
  refine zi a1 ea1.symm ?_
  refine lv_aload_n hx hb dL_law_1486 rfl (lv_at hl 3 rfl) ?_
  refine lv_iload_n hx hb dL_law_1487 rfl (lv_at hl 0 rfl) ?_
  refine lv_iconst (v := 2) hx hb dL_law_1488 (by decide) ?_
  refine lv_iadd hx hb dL_law_1489 ?_
  refine va_sld hx hb hX hbl hbA hS (z_sc hi hL (n := 2) (by decide) (by decide)) dL_law_1490 ?_
  refine zi a2 ea2.symm ?_
  refine lv_aload_n hx hb dL_law_1491 rfl (lv_at hl 3 rfl) ?_
  refine lv_iload_n hx hb dL_law_1492 rfl (lv_at hl 0 rfl) ?_
  refine lv_iconst (v := 3) hx hb dL_law_1493 (by decide) ?_
  refine lv_iadd hx hb dL_law_1494 ?_
  refine va_sld hx hb hX hbl hbA hS (z_sc hi hL (n := 3) (by decide) (by decide)) dL_law_1495 ?_
  refine zi a3 ea3.symm ?_
  refine lv_aload_n hx hb dL_law_1496 rfl (lv_at hl 3 rfl) ?_
  refine lv_iload_n hx hb dL_law_1497 rfl (lv_at hl 0 rfl) ?_
  refine lv_iconst (v := 4) hx hb dL_law_1498 (by decide) ?_
  refine lv_iadd hx hb dL_law_1499 ?_
  refine va_sld hx hb hX hbl hbA hS (z_sc hi hL (n := 4) (by decide) (by decide)) dL_law_1500 ?_
  refine zi a4 ea4.symm ?_
  refine lv_aload_n hx hb dL_law_1501 rfl (lv_at hl 3 rfl) ?_
  refine lv_iload_n hx hb dL_law_1502 rfl (lv_at hl 0 rfl) ?_
  refine lv_iconst (v := 5) hx hb dL_law_1503 (by decide) ?_
  refine lv_iadd hx hb dL_law_1504 ?_
  refine va_sld hx hb hX hbl hbA hS (z_sc hi hL (n := 5) (by decide) (by decide)) dL_law_1505 ?_
  refine zi a5 ea5.symm ?_
  refine z_iL (wa := wx) (wb := wm) (va_runV (As := [.int a1, .int a2, .int a3, .int a4, .int a5]) (rest := []) ⟨hx, hb, hml, hown, hts⟩ (wX10_nights l dC dI kA _ x0 a1 a2 a3 a4 a5 hX0 hgd hxt) (cwV 5 hts gL_law_X10_nights rfl rfl rfl ⟨rfl, hdX10_nights⟩ ⟨(Nat.le_of_ble_eq_true rfl), (Nat.le_of_ble_eq_true rfl)⟩) ⟨zPc.blind, XOK_rec hK hX0 hP, zPre hK (wl_P hP) (wl_D hD)⟩ rfl rfl hl.1 rfl (lv_room (Nat.le_of_ble_eq_true rfl)) dL_law_1506 ⟨hc1, hs1⟩) hP hD hS hA (fun r1 w1 H locs hw1 hP hD hS => ?_)
  refine lv_pop hx hb dL_law_1509 rfl ?_
  refine lv_aload_n hx hb dL_law_1510 rfl (lv_at hl 1 rfl) ?_
  refine lv_aload_n hx hb dL_law_1511 rfl (lv_at hl 3 rfl) ?_
  refine lv_iload_n hx hb dL_law_1512 rfl (lv_at hl 0 rfl) ?_
  refine lv_iconst (v := 1) hx hb dL_law_1513 (by decide) ?_
  refine lv_iadd hx hb dL_law_1514 ?_
  refine va_sld hx hb hX hbl hbA hS (z_sc hi hL (n := 1) (by decide) (by decide)) dL_law_1515 ?_
  refine zi a1 ea1.symm ?_
  refine lv_aload_n hx hb dL_law_1516 rfl (lv_at hl 3 rfl) ?_
  refine lv_iload_n hx hb dL_law_1517 rfl (lv_at hl 0 rfl) ?_
  refine lv_iconst (v := 2) hx hb dL_law_1518 (by decide) ?_
  refine lv_iadd hx hb dL_law_1519 ?_
  refine va_sld hx hb hX hbl hbA hS (z_sc hi hL (n := 2) (by decide) (by decide)) dL_law_1520 ?_
  refine zi a2 ea2.symm ?_
  refine lv_aload_n hx hb dL_law_1521 rfl (lv_at hl 3 rfl) ?_
  refine lv_iload_n hx hb dL_law_1522 rfl (lv_at hl 0 rfl) ?_
  refine lv_iconst (v := 3) hx hb dL_law_1523 (by decide) ?_
  refine lv_iadd hx hb dL_law_1524 ?_
  refine va_sld hx hb hX hbl hbA hS (z_sc hi hL (n := 3) (by decide) (by decide)) dL_law_1525 ?_
  refine zi a3 ea3.symm ?_
  refine lv_aload_n hx hb dL_law_1526 rfl (lv_at hl 3 rfl) ?_
  refine lv_iload_n hx hb dL_law_1527 rfl (lv_at hl 0 rfl) ?_
  refine lv_iconst (v := 4) hx hb dL_law_1528 (by decide) ?_
  refine lv_iadd hx hb dL_law_1529 ?_
  refine va_sld hx hb hX hbl hbA hS (z_sc hi hL (n := 4) (by decide) (by decide)) dL_law_1530 ?_
  refine zi a4 ea4.symm ?_
  refine lv_aload_n hx hb dL_law_1531 rfl (lv_at hl 3 rfl) ?_
  refine lv_iload_n hx hb dL_law_1532 rfl (lv_at hl 0 rfl) ?_
  refine lv_iconst (v := 5) hx hb dL_law_1533 (by decide) ?_
  refine lv_iadd hx hb dL_law_1534 ?_
  refine va_sld hx hb hX hbl hbA hS (z_sc hi hL (n := 5) (by decide) (by decide)) dL_law_1535 ?_
  refine zi a5 ea5.symm ?_
  refine z_iL (wa := wm) (wb := w1) (va_runV (As := [.int a1, .int a2, .int a3, .int a4, .int a5]) (rest := []) ⟨hx, hb, hml, hown, hts⟩ (wX11_nights l dC dI kA _ n0 a1 a2 a3 a4 a5 hM0) (cwV 5 hts gL_law_X11_nights rfl rfl rfl ⟨rfl, hdX11_nights⟩ ⟨(Nat.le_of_ble_eq_true rfl), (Nat.le_of_ble_eq_true rfl)⟩) ⟨zPc.blind, MOK_rec hK hM0 (wp_P hP List.perm_append_comm), zPre hK (wl_P (wp_P hP List.perm_append_comm)) (wl_D (wp_D hD List.perm_append_comm))⟩ rfl rfl hl.1 rfl (lv_room (Nat.le_of_ble_eq_true rfl)) dL_law_1536 ⟨hc2, hs2⟩) (wp_P hP List.perm_append_comm) (wp_D hD List.perm_append_comm) hS hA (fun r2 w2 H locs hw2 hP hD hS => ?_)
  have hP := wp_P hP (List.perm_append_comm)
  have hD := wp_D hD (List.perm_append_comm)
  refine lv_pop hx hb dL_law_1539 rfl ?_
  refine lv_goto (tgt := 1730) hx hb dL_law_1540 (by decide) ?_
  refine W.widen (k := cells + 40) (n := slots + 2000) (by omega) (by omega) ?_
  exact kk w1 w2 H locs ls ⟨_, _, _, hw1, hw2⟩ hP hD hS hl
set_option maxHeartbeats 4000000 in
set_option maxRecDepth 100000 in
theorem law_c31 {p : Program} {l : Launch} {e : Env} {s : State} {m : MethodId} {below : List Frame} {meth : Method} {c : Code} {b L : Nat} {xs : Nat → Int32} {dC : Nat → ClassId} {dI : Nat → Nat → Nat} {kA : Nat → ClassId} {aS vS : Nat} {oS : Option Nat} {x0 n0 : Nat} (C0 : lw_At p s m meth c b L xs) (hL : L ≤ 5120) (hK : zK dC dI kA s) (hZ : zStr aS vS oS (fun q : Nat => s.heap.size ≤ q) s s.heap) {i : Int32} (hi : 0 ≤ i.toInt ∧ i.toInt + 10 ≤ L) {cells slots : Nat} (hc : cells + 40 ≤ 600000) (hs : slots + 2000 ≤ 7302249) (kk : ∀ (wx wm : va_W) (H : Heap) (locs : List Loc) (ls : Array Slot), LInv kA x0 n0 wx wm → va_P (dC, dI) vwCl (wx ++ wm) H → va_D (fun q : Nat => s.heap.size ≤ q) (wx ++ wm) → va_S (fun q : Nat => s.heap.size ≤ q) s.heap H locs → lv_has ls 4 [(3, .int i), (2, .ref n0), (1, .ref x0), (0, .ref b)] → W p l e room_1 s m #[Value.ref b] below meth c H locs (cells + 40) (slots + 2000) (lw_Z below #[Value.ref b] s) (F0 m 1730 ls [])) (wx wm : va_W) (H : Heap) (locs : List Loc) (ls : Array Slot) (hI : LInv kA x0 n0 wx wm) (hP : va_P (dC, dI) vwCl (wx ++ wm) H) (hD : va_D (fun q : Nat => s.heap.size ≤ q) (wx ++ wm)) (hS : va_S (fun q : Nat => s.heap.size ≤ q) s.heap H locs) (hl : lv_has ls 4 [(3, .int i), (2, .ref n0), (1, .ref x0), (0, .ref b)]) : W p l e room_1 s m #[Value.ref b] below meth c H locs cells slots (lw_Z below #[Value.ref b] s) (F0 m 1543 ls []) := by
  obtain ⟨hx, hb, hr, hml, hown0, hts0, hX, hbl, hlocks, hgv⟩ := C0
  have hown : s.vm.findClass RL = some m.cls := hown0
  have hts : ∀ w ∈ wsL_law, w.before #[Value.ref b] s = true := fun w h => hts0 w (wsL_law_in w h)
  have hA : ∀ q : Nat, s.heap.size ≤ q → (fun q : Nat => s.heap.size ≤ q) q := fun _ h => h
  have hbA : ¬ (fun q : Nat => s.heap.size ≤ q) b := Nat.not_le.mpr hbl
  obtain ⟨S_, LL, im, hX0, hM0⟩ := hI
  have hgd := MOK4_gd hM0
  have hxt := MOK4_xt hM0
  have hgr := MOK4_gr hM0
  have hgx := MOK4_gx hM0
  have hc1 : cells + 20 ≤ room_1.cells := by show cells + 20 ≤ 600000; omega
  have hs1 : slots + 1000 ≤ room_1.slots := by show slots + 1000 ≤ 7302249; omega
  have hc2 : cells + 20 + 20 ≤ room_1.cells := by show cells + 20 + 20 ≤ 600000; omega
  have hs2 : slots + 1000 + 1000 ≤ room_1.slots := by show slots + 1000 + 1000 ≤ 7302249; omega
  obtain ⟨a1, ea1⟩ : ∃ y : Int32, y = xs (i + 1).toNatClampNeg := ⟨_, rfl⟩
  obtain ⟨a2, ea2⟩ : ∃ y : Int32, y = xs (i + 2).toNatClampNeg := ⟨_, rfl⟩
  obtain ⟨a3, ea3⟩ : ∃ y : Int32, y = xs (i + 3).toNatClampNeg := ⟨_, rfl⟩
  obtain ⟨a4, ea4⟩ : ∃ y : Int32, y = xs (i + 4).toNatClampNeg := ⟨_, rfl⟩
  obtain ⟨a5, ea5⟩ : ∃ y : Int32, y = xs (i + 5).toNatClampNeg := ⟨_, rfl⟩
  obtain ⟨a6, ea6⟩ : ∃ y : Int32, y = xs (i + 6).toNatClampNeg := ⟨_, rfl⟩
  refine lv_aload_n hx hb dL_law_1543 rfl (lv_at hl 2 rfl) ?_
  refine lv_aload_n hx hb dL_law_1544 rfl (lv_at hl 3 rfl) ?_
  refine lv_iload_n hx hb dL_law_1545 rfl (lv_at hl 0 rfl) ?_
  refine lv_iconst (v := 1) hx hb dL_law_1546 (by decide) ?_
  refine lv_iadd hx hb dL_law_1547 ?_
  refine va_sld hx hb hX hbl hbA hS (z_sc hi hL (n := 1) (by decide) (by decide)) dL_law_1548 ?_
  refine zi a1 ea1.symm ?_
  refine lv_aload_n hx hb dL_law_1549 rfl (lv_at hl 3 rfl) ?_
  refine lv_iload_n hx hb dL_law_1550 rfl (lv_at hl 0 rfl) ?_
  refine lv_iconst (v := 2) hx hb dL_law_1551 (by decide) ?_
  refine lv_iadd hx hb dL_law_1552 ?_
  refine va_sld hx hb hX hbl hbA hS (z_sc hi hL (n := 2) (by decide) (by decide)) dL_law_1553 ?_
  refine zi a2 ea2.symm ?_
  refine lv_aload_n hx hb dL_law_1554 rfl (lv_at hl 3 rfl) ?_
  refine lv_iload_n hx hb dL_law_1555 rfl (lv_at hl 0 rfl) ?_
  refine lv_iconst (v := 3) hx hb dL_law_1556 (by decide) ?_
  refine lv_iadd hx hb dL_law_1557 ?_
  refine va_sld hx hb hX hbl hbA hS (z_sc hi hL (n := 3) (by decide) (by decide)) dL_law_1558 ?_
  refine zi a3 ea3.symm ?_
  refine lv_aload_n hx hb dL_law_1559 rfl (lv_at hl 3 rfl) ?_
  refine lv_iload_n hx hb dL_law_1560 rfl (lv_at hl 0 rfl) ?_
  refine lv_iconst (v := 4) hx hb dL_law_1561 (by decide) ?_
  refine lv_iadd hx hb dL_law_1562 ?_
  refine va_sld hx hb hX hbl hbA hS (z_sc hi hL (n := 4) (by decide) (by decide)) dL_law_1563 ?_
  refine zi a4 ea4.symm ?_
  refine lv_aload_n hx hb dL_law_1564 rfl (lv_at hl 3 rfl) ?_
  refine lv_iload_n hx hb dL_law_1565 rfl (lv_at hl 0 rfl) ?_
  refine lv_iconst (v := 5) hx hb dL_law_1566 (by decide) ?_
  refine lv_iadd hx hb dL_law_1567 ?_
  refine va_sld hx hb hX hbl hbA hS (z_sc hi hL (n := 5) (by decide) (by decide)) dL_law_1568 ?_
  refine zi a5 ea5.symm ?_
  refine lv_aload_n hx hb dL_law_1569 rfl (lv_at hl 3 rfl) ?_
  refine lv_iload_n hx hb dL_law_1570 rfl (lv_at hl 0 rfl) ?_
  refine lv_bipush (v := 6) hx hb dL_law_1571 (by decide) ?_
  refine lv_iadd hx hb dL_law_1573 ?_
  refine va_sld hx hb hX hbl hbA hS (z_sc hi hL (n := 6) (by decide) (by decide)) dL_law_1574 ?_
  refine zi a6 ea6.symm ?_
  refine z_iL (wa := wx) (wb := wm) (va_runV (As := [.int a1, .int a2, .int a3, .int a4, .int a5, .int a6]) (rest := []) ⟨hx, hb, hml, hown, hts⟩ (wX10_price l dC dI kA _ x0 a1 a2 a3 a4 a5 a6 hX0 hgd hxt) (cwV 6 hts gL_law_X10_price rfl rfl rfl ⟨rfl, hdX10_price⟩ ⟨(Nat.le_of_ble_eq_true rfl), (Nat.le_of_ble_eq_true rfl)⟩) ⟨zPc.blind, XOK_rec hK hX0 hP, zPre hK (wl_P hP) (wl_D hD)⟩ rfl rfl hl.1 rfl (lv_room (Nat.le_of_ble_eq_true rfl)) dL_law_1575 ⟨hc1, hs1⟩) hP hD hS hA (fun r1 w1 H locs hw1 hP hD hS => ?_)
  refine lv_pop hx hb dL_law_1578 rfl ?_
  refine lv_aload_n hx hb dL_law_1579 rfl (lv_at hl 1 rfl) ?_
  refine lv_aload_n hx hb dL_law_1580 rfl (lv_at hl 3 rfl) ?_
  refine lv_iload_n hx hb dL_law_1581 rfl (lv_at hl 0 rfl) ?_
  refine lv_iconst (v := 1) hx hb dL_law_1582 (by decide) ?_
  refine lv_iadd hx hb dL_law_1583 ?_
  refine va_sld hx hb hX hbl hbA hS (z_sc hi hL (n := 1) (by decide) (by decide)) dL_law_1584 ?_
  refine zi a1 ea1.symm ?_
  refine lv_aload_n hx hb dL_law_1585 rfl (lv_at hl 3 rfl) ?_
  refine lv_iload_n hx hb dL_law_1586 rfl (lv_at hl 0 rfl) ?_
  refine lv_iconst (v := 2) hx hb dL_law_1587 (by decide) ?_
  refine lv_iadd hx hb dL_law_1588 ?_
  refine va_sld hx hb hX hbl hbA hS (z_sc hi hL (n := 2) (by decide) (by decide)) dL_law_1589 ?_
  refine zi a2 ea2.symm ?_
  refine lv_aload_n hx hb dL_law_1590 rfl (lv_at hl 3 rfl) ?_
  refine lv_iload_n hx hb dL_law_1591 rfl (lv_at hl 0 rfl) ?_
  refine lv_iconst (v := 3) hx hb dL_law_1592 (by decide) ?_
  refine lv_iadd hx hb dL_law_1593 ?_
  refine va_sld hx hb hX hbl hbA hS (z_sc hi hL (n := 3) (by decide) (by decide)) dL_law_1594 ?_
  refine zi a3 ea3.symm ?_
  refine lv_aload_n hx hb dL_law_1595 rfl (lv_at hl 3 rfl) ?_
  refine lv_iload_n hx hb dL_law_1596 rfl (lv_at hl 0 rfl) ?_
  refine lv_iconst (v := 4) hx hb dL_law_1597 (by decide) ?_
  refine lv_iadd hx hb dL_law_1598 ?_
  refine va_sld hx hb hX hbl hbA hS (z_sc hi hL (n := 4) (by decide) (by decide)) dL_law_1599 ?_
  refine zi a4 ea4.symm ?_
  refine lv_aload_n hx hb dL_law_1600 rfl (lv_at hl 3 rfl) ?_
  refine lv_iload_n hx hb dL_law_1601 rfl (lv_at hl 0 rfl) ?_
  refine lv_iconst (v := 5) hx hb dL_law_1602 (by decide) ?_
  refine lv_iadd hx hb dL_law_1603 ?_
  refine va_sld hx hb hX hbl hbA hS (z_sc hi hL (n := 5) (by decide) (by decide)) dL_law_1604 ?_
  refine zi a5 ea5.symm ?_
  refine lv_aload_n hx hb dL_law_1605 rfl (lv_at hl 3 rfl) ?_
  refine lv_iload_n hx hb dL_law_1606 rfl (lv_at hl 0 rfl) ?_
  refine lv_bipush (v := 6) hx hb dL_law_1607 (by decide) ?_
  refine lv_iadd hx hb dL_law_1609 ?_
  refine va_sld hx hb hX hbl hbA hS (z_sc hi hL (n := 6) (by decide) (by decide)) dL_law_1610 ?_
  refine zi a6 ea6.symm ?_
  refine z_iL (wa := wm) (wb := w1) (va_runV (As := [.int a1, .int a2, .int a3, .int a4, .int a5, .int a6]) (rest := []) ⟨hx, hb, hml, hown, hts⟩ (wX11_price l dC dI kA _ n0 a1 a2 a3 a4 a5 a6 hM0) (cwV 6 hts gL_law_X11_price rfl rfl rfl ⟨rfl, hdX11_price⟩ ⟨(Nat.le_of_ble_eq_true rfl), (Nat.le_of_ble_eq_true rfl)⟩) ⟨zPc.blind, MOK_rec hK hM0 (wp_P hP List.perm_append_comm), zPre hK (wl_P (wp_P hP List.perm_append_comm)) (wl_D (wp_D hD List.perm_append_comm))⟩ rfl rfl hl.1 rfl (lv_room (Nat.le_of_ble_eq_true rfl)) dL_law_1611 ⟨hc2, hs2⟩) (wp_P hP List.perm_append_comm) (wp_D hD List.perm_append_comm) hS hA (fun r2 w2 H locs hw2 hP hD hS => ?_)
  have hP := wp_P hP (List.perm_append_comm)
  have hD := wp_D hD (List.perm_append_comm)
  refine lv_pop hx hb dL_law_1614 rfl ?_
  refine lv_goto (tgt := 1730) hx hb dL_law_1615 (by decide) ?_
  refine W.widen (k := cells + 40) (n := slots + 2000) (by omega) (by omega) ?_
  exact kk w1 w2 H locs ls ⟨_, _, _, hw1, hw2⟩ hP hD hS hl
set_option maxHeartbeats 4000000 in
set_option maxRecDepth 100000 in
theorem law_c32 {p : Program} {l : Launch} {e : Env} {s : State} {m : MethodId} {below : List Frame} {meth : Method} {c : Code} {b L : Nat} {xs : Nat → Int32} {dC : Nat → ClassId} {dI : Nat → Nat → Nat} {kA : Nat → ClassId} {aS vS : Nat} {oS : Option Nat} {x0 n0 : Nat} (C0 : lw_At p s m meth c b L xs) (hL : L ≤ 5120) (hK : zK dC dI kA s) (hZ : zStr aS vS oS (fun q : Nat => s.heap.size ≤ q) s s.heap) {i : Int32} (hi : 0 ≤ i.toInt ∧ i.toInt + 10 ≤ L) {cells slots : Nat} (hc : cells + 40 ≤ 600000) (hs : slots + 2000 ≤ 7302249) (kk : ∀ (wx wm : va_W) (H : Heap) (locs : List Loc) (ls : Array Slot), LInv kA x0 n0 wx wm → va_P (dC, dI) vwCl (wx ++ wm) H → va_D (fun q : Nat => s.heap.size ≤ q) (wx ++ wm) → va_S (fun q : Nat => s.heap.size ≤ q) s.heap H locs → lv_has ls 4 [(3, .int i), (2, .ref n0), (1, .ref x0), (0, .ref b)] → W p l e room_1 s m #[Value.ref b] below meth c H locs (cells + 40) (slots + 2000) (lw_Z below #[Value.ref b] s) (F0 m 1730 ls [])) (wx wm : va_W) (H : Heap) (locs : List Loc) (ls : Array Slot) (hI : LInv kA x0 n0 wx wm) (hP : va_P (dC, dI) vwCl (wx ++ wm) H) (hD : va_D (fun q : Nat => s.heap.size ≤ q) (wx ++ wm)) (hS : va_S (fun q : Nat => s.heap.size ≤ q) s.heap H locs) (hl : lv_has ls 4 [(3, .int i), (2, .ref n0), (1, .ref x0), (0, .ref b)]) : W p l e room_1 s m #[Value.ref b] below meth c H locs cells slots (lw_Z below #[Value.ref b] s) (F0 m 1618 ls []) := by
  obtain ⟨hx, hb, hr, hml, hown0, hts0, hX, hbl, hlocks, hgv⟩ := C0
  have hown : s.vm.findClass RL = some m.cls := hown0
  have hts : ∀ w ∈ wsL_law, w.before #[Value.ref b] s = true := fun w h => hts0 w (wsL_law_in w h)
  have hA : ∀ q : Nat, s.heap.size ≤ q → (fun q : Nat => s.heap.size ≤ q) q := fun _ h => h
  have hbA : ¬ (fun q : Nat => s.heap.size ≤ q) b := Nat.not_le.mpr hbl
  obtain ⟨S_, LL, im, hX0, hM0⟩ := hI
  have hgd := MOK4_gd hM0
  have hxt := MOK4_xt hM0
  have hgr := MOK4_gr hM0
  have hgx := MOK4_gx hM0
  have hc1 : cells + 20 ≤ room_1.cells := by show cells + 20 ≤ 600000; omega
  have hs1 : slots + 1000 ≤ room_1.slots := by show slots + 1000 ≤ 7302249; omega
  have hc2 : cells + 20 + 20 ≤ room_1.cells := by show cells + 20 + 20 ≤ 600000; omega
  have hs2 : slots + 1000 + 1000 ≤ room_1.slots := by show slots + 1000 + 1000 ≤ 7302249; omega
  obtain ⟨a1, ea1⟩ : ∃ y : Int32, y = xs (i + 1).toNatClampNeg := ⟨_, rfl⟩
  obtain ⟨a2, ea2⟩ : ∃ y : Int32, y = xs (i + 2).toNatClampNeg := ⟨_, rfl⟩
  obtain ⟨a3, ea3⟩ : ∃ y : Int32, y = xs (i + 3).toNatClampNeg := ⟨_, rfl⟩
  refine lv_aload_n hx hb dL_law_1618 rfl (lv_at hl 2 rfl) ?_
  refine lv_aload_n hx hb dL_law_1619 rfl (lv_at hl 3 rfl) ?_
  refine lv_iload_n hx hb dL_law_1620 rfl (lv_at hl 0 rfl) ?_
  refine lv_iconst (v := 1) hx hb dL_law_1621 (by decide) ?_
  refine lv_iadd hx hb dL_law_1622 ?_
  refine va_sld hx hb hX hbl hbA hS (z_sc hi hL (n := 1) (by decide) (by decide)) dL_law_1623 ?_
  refine zi a1 ea1.symm ?_
  refine lv_aload_n hx hb dL_law_1624 rfl (lv_at hl 3 rfl) ?_
  refine lv_iload_n hx hb dL_law_1625 rfl (lv_at hl 0 rfl) ?_
  refine lv_iconst (v := 2) hx hb dL_law_1626 (by decide) ?_
  refine lv_iadd hx hb dL_law_1627 ?_
  refine va_sld hx hb hX hbl hbA hS (z_sc hi hL (n := 2) (by decide) (by decide)) dL_law_1628 ?_
  refine zi a2 ea2.symm ?_
  refine lv_aload_n hx hb dL_law_1629 rfl (lv_at hl 3 rfl) ?_
  refine lv_iload_n hx hb dL_law_1630 rfl (lv_at hl 0 rfl) ?_
  refine lv_iconst (v := 3) hx hb dL_law_1631 (by decide) ?_
  refine lv_iadd hx hb dL_law_1632 ?_
  refine va_sld hx hb hX hbl hbA hS (z_sc hi hL (n := 3) (by decide) (by decide)) dL_law_1633 ?_
  refine zi a3 ea3.symm ?_
  refine z_iL (wa := wx) (wb := wm) (va_runV (As := [.int a1, .int a2, .int a3]) (rest := []) ⟨hx, hb, hml, hown, hts⟩ (wX10_ahead l dC dI kA _ x0 a1 a2 a3 hX0 hgd hxt) (cwV 3 hts gL_law_X10_ahead rfl rfl rfl ⟨rfl, hdX10_ahead⟩ ⟨(Nat.le_of_ble_eq_true rfl), (Nat.le_of_ble_eq_true rfl)⟩) ⟨zPc.blind, XOK_rec hK hX0 hP, zPre hK (wl_P hP) (wl_D hD)⟩ rfl rfl hl.1 rfl (lv_room (Nat.le_of_ble_eq_true rfl)) dL_law_1634 ⟨hc1, hs1⟩) hP hD hS hA (fun r1 w1 H locs hw1 hP hD hS => ?_)
  refine lv_pop hx hb dL_law_1637 rfl ?_
  refine lv_aload_n hx hb dL_law_1638 rfl (lv_at hl 1 rfl) ?_
  refine lv_aload_n hx hb dL_law_1639 rfl (lv_at hl 3 rfl) ?_
  refine lv_iload_n hx hb dL_law_1640 rfl (lv_at hl 0 rfl) ?_
  refine lv_iconst (v := 1) hx hb dL_law_1641 (by decide) ?_
  refine lv_iadd hx hb dL_law_1642 ?_
  refine va_sld hx hb hX hbl hbA hS (z_sc hi hL (n := 1) (by decide) (by decide)) dL_law_1643 ?_
  refine zi a1 ea1.symm ?_
  refine lv_aload_n hx hb dL_law_1644 rfl (lv_at hl 3 rfl) ?_
  refine lv_iload_n hx hb dL_law_1645 rfl (lv_at hl 0 rfl) ?_
  refine lv_iconst (v := 2) hx hb dL_law_1646 (by decide) ?_
  refine lv_iadd hx hb dL_law_1647 ?_
  refine va_sld hx hb hX hbl hbA hS (z_sc hi hL (n := 2) (by decide) (by decide)) dL_law_1648 ?_
  refine zi a2 ea2.symm ?_
  refine lv_aload_n hx hb dL_law_1649 rfl (lv_at hl 3 rfl) ?_
  refine lv_iload_n hx hb dL_law_1650 rfl (lv_at hl 0 rfl) ?_
  refine lv_iconst (v := 3) hx hb dL_law_1651 (by decide) ?_
  refine lv_iadd hx hb dL_law_1652 ?_
  refine va_sld hx hb hX hbl hbA hS (z_sc hi hL (n := 3) (by decide) (by decide)) dL_law_1653 ?_
  refine zi a3 ea3.symm ?_
  refine z_iL (wa := wm) (wb := w1) (va_runV (As := [.int a1, .int a2, .int a3]) (rest := []) ⟨hx, hb, hml, hown, hts⟩ (wX11_ahead l dC dI kA _ n0 a1 a2 a3 hM0) (cwV 3 hts gL_law_X11_ahead rfl rfl rfl ⟨rfl, hdX11_ahead⟩ ⟨(Nat.le_of_ble_eq_true rfl), (Nat.le_of_ble_eq_true rfl)⟩) ⟨zPc.blind, MOK_rec hK hM0 (wp_P hP List.perm_append_comm), zPre hK (wl_P (wp_P hP List.perm_append_comm)) (wl_D (wp_D hD List.perm_append_comm))⟩ rfl rfl hl.1 rfl (lv_room (Nat.le_of_ble_eq_true rfl)) dL_law_1654 ⟨hc2, hs2⟩) (wp_P hP List.perm_append_comm) (wp_D hD List.perm_append_comm) hS hA (fun r2 w2 H locs hw2 hP hD hS => ?_)
  have hP := wp_P hP (List.perm_append_comm)
  have hD := wp_D hD (List.perm_append_comm)
  refine lv_pop hx hb dL_law_1657 rfl ?_
  refine lv_goto (tgt := 1730) hx hb dL_law_1658 (by decide) ?_
  refine W.widen (k := cells + 40) (n := slots + 2000) (by omega) (by omega) ?_
  exact kk w1 w2 H locs ls ⟨_, _, _, hw1, hw2.2⟩ hP hD hS hl
set_option maxHeartbeats 4000000 in
set_option maxRecDepth 100000 in
theorem law_c33 {p : Program} {l : Launch} {e : Env} {s : State} {m : MethodId} {below : List Frame} {meth : Method} {c : Code} {b L : Nat} {xs : Nat → Int32} {dC : Nat → ClassId} {dI : Nat → Nat → Nat} {kA : Nat → ClassId} {aS vS : Nat} {oS : Option Nat} {x0 n0 : Nat} (C0 : lw_At p s m meth c b L xs) (hL : L ≤ 5120) (hK : zK dC dI kA s) (hZ : zStr aS vS oS (fun q : Nat => s.heap.size ≤ q) s s.heap) {i : Int32} (hi : 0 ≤ i.toInt ∧ i.toInt + 10 ≤ L) {cells slots : Nat} (hc : cells + 40 ≤ 600000) (hs : slots + 2000 ≤ 7302249) (kk : ∀ (wx wm : va_W) (H : Heap) (locs : List Loc) (ls : Array Slot), LInv kA x0 n0 wx wm → va_P (dC, dI) vwCl (wx ++ wm) H → va_D (fun q : Nat => s.heap.size ≤ q) (wx ++ wm) → va_S (fun q : Nat => s.heap.size ≤ q) s.heap H locs → lv_has ls 4 [(3, .int i), (2, .ref n0), (1, .ref x0), (0, .ref b)] → W p l e room_1 s m #[Value.ref b] below meth c H locs (cells + 40) (slots + 2000) (lw_Z below #[Value.ref b] s) (F0 m 1730 ls [])) (wx wm : va_W) (H : Heap) (locs : List Loc) (ls : Array Slot) (hI : LInv kA x0 n0 wx wm) (hP : va_P (dC, dI) vwCl (wx ++ wm) H) (hD : va_D (fun q : Nat => s.heap.size ≤ q) (wx ++ wm)) (hS : va_S (fun q : Nat => s.heap.size ≤ q) s.heap H locs) (hl : lv_has ls 4 [(3, .int i), (2, .ref n0), (1, .ref x0), (0, .ref b)]) : W p l e room_1 s m #[Value.ref b] below meth c H locs cells slots (lw_Z below #[Value.ref b] s) (F0 m 1661 ls []) := by
  obtain ⟨hx, hb, hr, hml, hown0, hts0, hX, hbl, hlocks, hgv⟩ := C0
  have hown : s.vm.findClass RL = some m.cls := hown0
  have hts : ∀ w ∈ wsL_law, w.before #[Value.ref b] s = true := fun w h => hts0 w (wsL_law_in w h)
  have hA : ∀ q : Nat, s.heap.size ≤ q → (fun q : Nat => s.heap.size ≤ q) q := fun _ h => h
  have hbA : ¬ (fun q : Nat => s.heap.size ≤ q) b := Nat.not_le.mpr hbl
  obtain ⟨S_, LL, im, hX0, hM0⟩ := hI
  have hgd := MOK4_gd hM0
  have hxt := MOK4_xt hM0
  have hgr := MOK4_gr hM0
  have hgx := MOK4_gx hM0
  have hc1 : cells + 20 ≤ room_1.cells := by show cells + 20 ≤ 600000; omega
  have hs1 : slots + 1000 ≤ room_1.slots := by show slots + 1000 ≤ 7302249; omega
  have hc2 : cells + 20 + 20 ≤ room_1.cells := by show cells + 20 + 20 ≤ 600000; omega
  have hs2 : slots + 1000 + 1000 ≤ room_1.slots := by show slots + 1000 + 1000 ≤ 7302249; omega
  obtain ⟨a1, ea1⟩ : ∃ y : Int32, y = xs (i + 1).toNatClampNeg := ⟨_, rfl⟩
  refine lv_aload_n hx hb dL_law_1661 rfl (lv_at hl 2 rfl) ?_
  refine lv_aload_n hx hb dL_law_1662 rfl (lv_at hl 3 rfl) ?_
  refine lv_iload_n hx hb dL_law_1663 rfl (lv_at hl 0 rfl) ?_
  refine lv_iconst (v := 1) hx hb dL_law_1664 (by decide) ?_
  refine lv_iadd hx hb dL_law_1665 ?_
  refine va_sld hx hb hX hbl hbA hS (z_sc hi hL (n := 1) (by decide) (by decide)) dL_law_1666 ?_
  refine zi a1 ea1.symm ?_
  refine z_iL (wa := wx) (wb := wm) (va_runV (As := [.int a1]) (rest := []) ⟨hx, hb, hml, hown, hts⟩ (wX10_count l dC dI kA _ x0 a1 hX0 hgd hxt) (cwV 1 hts gL_law_X10_count rfl rfl rfl ⟨rfl, hdX10_count⟩ ⟨(Nat.le_of_ble_eq_true rfl), (Nat.le_of_ble_eq_true rfl)⟩) ⟨zPc.blind, XOK_rec hK hX0 hP, zPre hK (wl_P hP) (wl_D hD)⟩ rfl rfl hl.1 rfl (lv_room (Nat.le_of_ble_eq_true rfl)) dL_law_1667 ⟨hc1, hs1⟩) hP hD hS hA (fun r1 w1 H locs hw1 hP hD hS => ?_)
  refine lv_pop hx hb dL_law_1670 rfl ?_
  refine lv_aload_n hx hb dL_law_1671 rfl (lv_at hl 1 rfl) ?_
  refine lv_aload_n hx hb dL_law_1672 rfl (lv_at hl 3 rfl) ?_
  refine lv_iload_n hx hb dL_law_1673 rfl (lv_at hl 0 rfl) ?_
  refine lv_iconst (v := 1) hx hb dL_law_1674 (by decide) ?_
  refine lv_iadd hx hb dL_law_1675 ?_
  refine va_sld hx hb hX hbl hbA hS (z_sc hi hL (n := 1) (by decide) (by decide)) dL_law_1676 ?_
  refine zi a1 ea1.symm ?_
  refine z_iL (wa := wm) (wb := w1) (va_runV (As := [.int a1]) (rest := []) ⟨hx, hb, hml, hown, hts⟩ (wX11_count l dC dI kA _ n0 a1 hM0) (cwV 1 hts gL_law_X11_count rfl rfl rfl ⟨rfl, hdX11_count⟩ ⟨(Nat.le_of_ble_eq_true rfl), (Nat.le_of_ble_eq_true rfl)⟩) ⟨zPc.blind, MOK_rec hK hM0 (wp_P hP List.perm_append_comm), zPre hK (wl_P (wp_P hP List.perm_append_comm)) (wl_D (wp_D hD List.perm_append_comm))⟩ rfl rfl hl.1 rfl (lv_room (Nat.le_of_ble_eq_true rfl)) dL_law_1677 ⟨hc2, hs2⟩) (wp_P hP List.perm_append_comm) (wp_D hD List.perm_append_comm) hS hA (fun r2 w2 H locs hw2 hP hD hS => ?_)
  have hP := wp_P hP (List.perm_append_comm)
  have hD := wp_D hD (List.perm_append_comm)
  refine lv_pop hx hb dL_law_1680 rfl ?_
  refine lv_goto (tgt := 1730) hx hb dL_law_1681 (by decide) ?_
  refine W.widen (k := cells + 40) (n := slots + 2000) (by omega) (by omega) ?_
  exact kk w1 w2 H locs ls ⟨_, _, _, hw1.2, hw2.2⟩ hP hD hS hl
set_option maxHeartbeats 4000000 in
set_option maxRecDepth 100000 in
theorem law_c34 {p : Program} {l : Launch} {e : Env} {s : State} {m : MethodId} {below : List Frame} {meth : Method} {c : Code} {b L : Nat} {xs : Nat → Int32} {dC : Nat → ClassId} {dI : Nat → Nat → Nat} {kA : Nat → ClassId} {aS vS : Nat} {oS : Option Nat} {x0 n0 : Nat} (C0 : lw_At p s m meth c b L xs) (hL : L ≤ 5120) (hK : zK dC dI kA s) (hZ : zStr aS vS oS (fun q : Nat => s.heap.size ≤ q) s s.heap) {i : Int32} (hi : 0 ≤ i.toInt ∧ i.toInt + 10 ≤ L) {cells slots : Nat} (hc : cells + 40 ≤ 600000) (hs : slots + 2000 ≤ 7302249) (kk : ∀ (wx wm : va_W) (H : Heap) (locs : List Loc) (ls : Array Slot), LInv kA x0 n0 wx wm → va_P (dC, dI) vwCl (wx ++ wm) H → va_D (fun q : Nat => s.heap.size ≤ q) (wx ++ wm) → va_S (fun q : Nat => s.heap.size ≤ q) s.heap H locs → lv_has ls 4 [(3, .int i), (2, .ref n0), (1, .ref x0), (0, .ref b)] → W p l e room_1 s m #[Value.ref b] below meth c H locs (cells + 40) (slots + 2000) (lw_Z below #[Value.ref b] s) (F0 m 1730 ls [])) (wx wm : va_W) (H : Heap) (locs : List Loc) (ls : Array Slot) (hI : LInv kA x0 n0 wx wm) (hP : va_P (dC, dI) vwCl (wx ++ wm) H) (hD : va_D (fun q : Nat => s.heap.size ≤ q) (wx ++ wm)) (hS : va_S (fun q : Nat => s.heap.size ≤ q) s.heap H locs) (hl : lv_has ls 4 [(3, .int i), (2, .ref n0), (1, .ref x0), (0, .ref b)]) : W p l e room_1 s m #[Value.ref b] below meth c H locs cells slots (lw_Z below #[Value.ref b] s) (F0 m 1684 ls []) := by
  obtain ⟨hx, hb, hr, hml, hown0, hts0, hX, hbl, hlocks, hgv⟩ := C0
  have hown : s.vm.findClass RL = some m.cls := hown0
  have hts : ∀ w ∈ wsL_law, w.before #[Value.ref b] s = true := fun w h => hts0 w (wsL_law_in w h)
  have hA : ∀ q : Nat, s.heap.size ≤ q → (fun q : Nat => s.heap.size ≤ q) q := fun _ h => h
  have hbA : ¬ (fun q : Nat => s.heap.size ≤ q) b := Nat.not_le.mpr hbl
  obtain ⟨S_, LL, im, hX0, hM0⟩ := hI
  have hgd := MOK4_gd hM0
  have hxt := MOK4_xt hM0
  have hgr := MOK4_gr hM0
  have hgx := MOK4_gx hM0
  have hc1 : cells + 20 ≤ room_1.cells := by show cells + 20 ≤ 600000; omega
  have hs1 : slots + 1000 ≤ room_1.slots := by show slots + 1000 ≤ 7302249; omega
  have hc2 : cells + 20 + 20 ≤ room_1.cells := by show cells + 20 + 20 ≤ 600000; omega
  have hs2 : slots + 1000 + 1000 ≤ room_1.slots := by show slots + 1000 + 1000 ≤ 7302249; omega
  obtain ⟨a1, ea1⟩ : ∃ y : Int32, y = xs (i + 1).toNatClampNeg := ⟨_, rfl⟩
  refine lv_aload_n hx hb dL_law_1684 rfl (lv_at hl 2 rfl) ?_
  refine lv_aload_n hx hb dL_law_1685 rfl (lv_at hl 3 rfl) ?_
  refine lv_iload_n hx hb dL_law_1686 rfl (lv_at hl 0 rfl) ?_
  refine lv_iconst (v := 1) hx hb dL_law_1687 (by decide) ?_
  refine lv_iadd hx hb dL_law_1688 ?_
  refine va_sld hx hb hX hbl hbA hS (z_sc hi hL (n := 1) (by decide) (by decide)) dL_law_1689 ?_
  refine zi a1 ea1.symm ?_
  refine z_iL (wa := wx) (wb := wm) (va_runV (As := [.int a1]) (rest := []) ⟨hx, hb, hml, hown, hts⟩ (wX10_image l dC dI kA _ x0 a1 hX0 hgd hxt) (cwV 1 hts gL_law_X10_image rfl rfl rfl ⟨rfl, hdX10_image⟩ ⟨(Nat.le_of_ble_eq_true rfl), (Nat.le_of_ble_eq_true rfl)⟩) ⟨zPc.blind, XOK_rec hK hX0 hP, zPre hK (wl_P hP) (wl_D hD)⟩ rfl rfl hl.1 rfl (lv_room (Nat.le_of_ble_eq_true rfl)) dL_law_1690 ⟨hc1, hs1⟩) hP hD hS hA (fun r1 w1 H locs hw1 hP hD hS => ?_)
  refine lv_pop hx hb dL_law_1693 rfl ?_
  refine lv_aload_n hx hb dL_law_1694 rfl (lv_at hl 1 rfl) ?_
  refine lv_aload_n hx hb dL_law_1695 rfl (lv_at hl 3 rfl) ?_
  refine lv_iload_n hx hb dL_law_1696 rfl (lv_at hl 0 rfl) ?_
  refine lv_iconst (v := 1) hx hb dL_law_1697 (by decide) ?_
  refine lv_iadd hx hb dL_law_1698 ?_
  refine va_sld hx hb hX hbl hbA hS (z_sc hi hL (n := 1) (by decide) (by decide)) dL_law_1699 ?_
  refine zi a1 ea1.symm ?_
  refine z_iL (wa := wm) (wb := w1) (va_runV (As := [.int a1]) (rest := []) ⟨hx, hb, hml, hown, hts⟩ (wX11_image l dC dI kA _ n0 a1 hM0) (cwV 1 hts gL_law_X11_image rfl rfl rfl ⟨rfl, hdX11_image⟩ ⟨(Nat.le_of_ble_eq_true rfl), (Nat.le_of_ble_eq_true rfl)⟩) ⟨zPc.blind, MOK_rec hK hM0 (wp_P hP List.perm_append_comm), zPre hK (wl_P (wp_P hP List.perm_append_comm)) (wl_D (wp_D hD List.perm_append_comm))⟩ rfl rfl hl.1 rfl (lv_room (Nat.le_of_ble_eq_true rfl)) dL_law_1700 ⟨hc2, hs2⟩) (wp_P hP List.perm_append_comm) (wp_D hD List.perm_append_comm) hS hA (fun r2 w2 H locs hw2 hP hD hS => ?_)
  have hP := wp_P hP (List.perm_append_comm)
  have hD := wp_D hD (List.perm_append_comm)
  refine lv_pop hx hb dL_law_1703 rfl ?_
  refine lv_goto (tgt := 1730) hx hb dL_law_1704 (by decide) ?_
  refine W.widen (k := cells + 40) (n := slots + 2000) (by omega) (by omega) ?_
  exact kk w1 w2 H locs ls ⟨_, _, _, hw1.2, hw2.2⟩ hP hD hS hl
set_option maxHeartbeats 4000000 in
set_option maxRecDepth 100000 in
theorem law_c35 {p : Program} {l : Launch} {e : Env} {s : State} {m : MethodId} {below : List Frame} {meth : Method} {c : Code} {b L : Nat} {xs : Nat → Int32} {dC : Nat → ClassId} {dI : Nat → Nat → Nat} {kA : Nat → ClassId} {aS vS : Nat} {oS : Option Nat} {x0 n0 : Nat} (C0 : lw_At p s m meth c b L xs) (hL : L ≤ 5120) (hK : zK dC dI kA s) (hZ : zStr aS vS oS (fun q : Nat => s.heap.size ≤ q) s s.heap) {i : Int32} (hi : 0 ≤ i.toInt ∧ i.toInt + 10 ≤ L) {cells slots : Nat} (hc : cells + 40 ≤ 600000) (hs : slots + 2000 ≤ 7302249) (kk : ∀ (wx wm : va_W) (H : Heap) (locs : List Loc) (ls : Array Slot), LInv kA x0 n0 wx wm → va_P (dC, dI) vwCl (wx ++ wm) H → va_D (fun q : Nat => s.heap.size ≤ q) (wx ++ wm) → va_S (fun q : Nat => s.heap.size ≤ q) s.heap H locs → lv_has ls 4 [(3, .int i), (2, .ref n0), (1, .ref x0), (0, .ref b)] → W p l e room_1 s m #[Value.ref b] below meth c H locs (cells + 40) (slots + 2000) (lw_Z below #[Value.ref b] s) (F0 m 1730 ls [])) (wx wm : va_W) (H : Heap) (locs : List Loc) (ls : Array Slot) (hI : LInv kA x0 n0 wx wm) (hP : va_P (dC, dI) vwCl (wx ++ wm) H) (hD : va_D (fun q : Nat => s.heap.size ≤ q) (wx ++ wm)) (hS : va_S (fun q : Nat => s.heap.size ≤ q) s.heap H locs) (hl : lv_has ls 4 [(3, .int i), (2, .ref n0), (1, .ref x0), (0, .ref b)]) : W p l e room_1 s m #[Value.ref b] below meth c H locs cells slots (lw_Z below #[Value.ref b] s) (F0 m 1707 ls []) := by
  obtain ⟨hx, hb, hr, hml, hown0, hts0, hX, hbl, hlocks, hgv⟩ := C0
  have hown : s.vm.findClass RL = some m.cls := hown0
  have hts : ∀ w ∈ wsL_law, w.before #[Value.ref b] s = true := fun w h => hts0 w (wsL_law_in w h)
  have hA : ∀ q : Nat, s.heap.size ≤ q → (fun q : Nat => s.heap.size ≤ q) q := fun _ h => h
  have hbA : ¬ (fun q : Nat => s.heap.size ≤ q) b := Nat.not_le.mpr hbl
  obtain ⟨S_, LL, im, hX0, hM0⟩ := hI
  have hgd := MOK4_gd hM0
  have hxt := MOK4_xt hM0
  have hgr := MOK4_gr hM0
  have hgx := MOK4_gx hM0
  have hc1 : cells + 20 ≤ room_1.cells := by show cells + 20 ≤ 600000; omega
  have hs1 : slots + 1000 ≤ room_1.slots := by show slots + 1000 ≤ 7302249; omega
  have hc2 : cells + 20 + 20 ≤ room_1.cells := by show cells + 20 + 20 ≤ 600000; omega
  have hs2 : slots + 1000 + 1000 ≤ room_1.slots := by show slots + 1000 + 1000 ≤ 7302249; omega
  obtain ⟨a1, ea1⟩ : ∃ y : Int32, y = xs (i + 1).toNatClampNeg := ⟨_, rfl⟩
  refine lv_aload_n hx hb dL_law_1707 rfl (lv_at hl 2 rfl) ?_
  refine lv_aload_n hx hb dL_law_1708 rfl (lv_at hl 3 rfl) ?_
  refine lv_iload_n hx hb dL_law_1709 rfl (lv_at hl 0 rfl) ?_
  refine lv_iconst (v := 1) hx hb dL_law_1710 (by decide) ?_
  refine lv_iadd hx hb dL_law_1711 ?_
  refine va_sld hx hb hX hbl hbA hS (z_sc hi hL (n := 1) (by decide) (by decide)) dL_law_1712 ?_
  refine zi a1 ea1.symm ?_
  refine z_iL (wa := wx) (wb := wm) (va_runV (As := [.int a1]) (rest := []) ⟨hx, hb, hml, hown, hts⟩ (wX10_back l dC dI kA _ x0 a1 hX0 hgd hxt) (cwV 1 hts gL_law_X10_back rfl rfl rfl ⟨rfl, hdX10_back⟩ ⟨(Nat.le_of_ble_eq_true rfl), (Nat.le_of_ble_eq_true rfl)⟩) ⟨zPc.blind, XOK_rec hK hX0 hP, zPre hK (wl_P hP) (wl_D hD)⟩ rfl rfl hl.1 rfl (lv_room (Nat.le_of_ble_eq_true rfl)) dL_law_1713 ⟨hc1, hs1⟩) hP hD hS hA (fun r1 w1 H locs hw1 hP hD hS => ?_)
  refine lv_pop hx hb dL_law_1716 rfl ?_
  refine lv_aload_n hx hb dL_law_1717 rfl (lv_at hl 1 rfl) ?_
  refine lv_aload_n hx hb dL_law_1718 rfl (lv_at hl 3 rfl) ?_
  refine lv_iload_n hx hb dL_law_1719 rfl (lv_at hl 0 rfl) ?_
  refine lv_iconst (v := 1) hx hb dL_law_1720 (by decide) ?_
  refine lv_iadd hx hb dL_law_1721 ?_
  refine va_sld hx hb hX hbl hbA hS (z_sc hi hL (n := 1) (by decide) (by decide)) dL_law_1722 ?_
  refine zi a1 ea1.symm ?_
  refine z_iL (wa := wm) (wb := w1) (va_runV (As := [.int a1]) (rest := []) ⟨hx, hb, hml, hown, hts⟩ (wX11_back l dC dI kA _ n0 a1 hM0) (cwV 1 hts gL_law_X11_back rfl rfl rfl ⟨rfl, hdX11_back⟩ ⟨(Nat.le_of_ble_eq_true rfl), (Nat.le_of_ble_eq_true rfl)⟩) ⟨zPc.blind, MOK_rec hK hM0 (wp_P hP List.perm_append_comm), zPre hK (wl_P (wp_P hP List.perm_append_comm)) (wl_D (wp_D hD List.perm_append_comm))⟩ rfl rfl hl.1 rfl (lv_room (Nat.le_of_ble_eq_true rfl)) dL_law_1723 ⟨hc2, hs2⟩) (wp_P hP List.perm_append_comm) (wp_D hD List.perm_append_comm) hS hA (fun r2 w2 H locs hw2 hP hD hS => ?_)
  have hP := wp_P hP (List.perm_append_comm)
  have hD := wp_D hD (List.perm_append_comm)
  refine lv_pop hx hb dL_law_1726 rfl ?_
  refine lv_goto (tgt := 1730) hx hb dL_law_1727 (by decide) ?_
  refine W.widen (k := cells + 40) (n := slots + 2000) (by omega) (by omega) ?_
  exact kk w1 w2 H locs ls ⟨_, _, _, hw1.2, hw2.2⟩ hP hD hS hl
set_option maxHeartbeats 4000000 in
set_option maxRecDepth 100000 in
theorem law_c36 {p : Program} {l : Launch} {e : Env} {s : State} {m : MethodId} {below : List Frame} {meth : Method} {c : Code} {b L : Nat} {xs : Nat → Int32} {dC : Nat → ClassId} {dI : Nat → Nat → Nat} {kA : Nat → ClassId} {aS vS : Nat} {oS : Option Nat} {x0 n0 : Nat} (C0 : lw_At p s m meth c b L xs) (hL : L ≤ 5120) (hK : zK dC dI kA s) (hZ : zStr aS vS oS (fun q : Nat => s.heap.size ≤ q) s s.heap) {i : Int32} (hi : 0 ≤ i.toInt ∧ i.toInt + 10 ≤ L) {cells slots : Nat} (hc : cells + 40 ≤ 600000) (hs : slots + 2000 ≤ 7302249) (kk : ∀ (wx wm : va_W) (H : Heap) (locs : List Loc) (ls : Array Slot), LInv kA x0 n0 wx wm → va_P (dC, dI) vwCl (wx ++ wm) H → va_D (fun q : Nat => s.heap.size ≤ q) (wx ++ wm) → va_S (fun q : Nat => s.heap.size ≤ q) s.heap H locs → lv_has ls 4 [(3, .int i), (2, .ref n0), (1, .ref x0), (0, .ref b)] → W p l e room_1 s m #[Value.ref b] below meth c H locs (cells + 40) (slots + 2000) (lw_Z below #[Value.ref b] s) (F0 m 1730 ls [])) (wx wm : va_W) (H : Heap) (locs : List Loc) (ls : Array Slot) (hI : LInv kA x0 n0 wx wm) (hP : va_P (dC, dI) vwCl (wx ++ wm) H) (hD : va_D (fun q : Nat => s.heap.size ≤ q) (wx ++ wm)) (hS : va_S (fun q : Nat => s.heap.size ≤ q) s.heap H locs) (hl : lv_has ls 4 [(3, .int i), (2, .ref n0), (1, .ref x0), (0, .ref b)]) : W p l e room_1 s m #[Value.ref b] below meth c H locs cells slots (lw_Z below #[Value.ref b] s) (F0 m 1730 ls []) := by
  obtain ⟨hx, hb, hr, hml, hown0, hts0, hX, hbl, hlocks, hgv⟩ := C0
  have hown : s.vm.findClass RL = some m.cls := hown0
  have hts : ∀ w ∈ wsL_law, w.before #[Value.ref b] s = true := fun w h => hts0 w (wsL_law_in w h)
  have hA : ∀ q : Nat, s.heap.size ≤ q → (fun q : Nat => s.heap.size ≤ q) q := fun _ h => h
  have hbA : ¬ (fun q : Nat => s.heap.size ≤ q) b := Nat.not_le.mpr hbl
  obtain ⟨S_, LL, im, hX0, hM0⟩ := hI
  have hgd := MOK4_gd hM0
  have hxt := MOK4_xt hM0
  have hgr := MOK4_gr hM0
  have hgx := MOK4_gx hM0
  have hc1 : cells + 20 ≤ room_1.cells := by show cells + 20 ≤ 600000; omega
  have hs1 : slots + 1000 ≤ room_1.slots := by show slots + 1000 ≤ 7302249; omega
  have hc2 : cells + 20 + 20 ≤ room_1.cells := by show cells + 20 + 20 ≤ 600000; omega
  have hs2 : slots + 1000 + 1000 ≤ room_1.slots := by show slots + 1000 + 1000 ≤ 7302249; omega
  refine W.widen (k := cells + 40) (n := slots + 2000) (by omega) (by omega) ?_
  exact kk wx wm H locs ls ⟨S_, LL, im, hX0, hM0⟩ hP hD hS hl
