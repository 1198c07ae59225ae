theorem hdX10_node : yX10_node.cls ≠ "java/lang/invoke/MethodHandle" ∧ yX10_node.cls ≠ "java/lang/invoke/VarHandle" ∧ (parseMethodDescriptor yX10_node.desc).map (fun d => d.parameters.length) = some 3 := ⟨hdc_6.1, hdc_6.2, hdd_15⟩
theorem hdX11_node : yX11_node.cls ≠ "java/lang/invoke/MethodHandle" ∧ yX11_node.cls ≠ "java/lang/invoke/VarHandle" ∧ (parseMethodDescriptor yX11_node.desc).map (fun d => d.parameters.length) = some 3 := ⟨hdc_0.1, hdc_0.2, hdd_15⟩
theorem hdX10_pass : yX10_pass.cls ≠ "java/lang/invoke/MethodHandle" ∧ yX10_pass.cls ≠ "java/lang/invoke/VarHandle" ∧ (parseMethodDescriptor yX10_pass.desc).map (fun d => d.parameters.length) = some 5 := ⟨hdc_6.1, hdc_6.2, hdd_58⟩
theorem hdX11_pass : yX11_pass.cls ≠ "java/lang/invoke/MethodHandle" ∧ yX11_pass.cls ≠ "java/lang/invoke/VarHandle" ∧ (parseMethodDescriptor yX11_pass.desc).map (fun d => d.parameters.length) = some 5 := ⟨hdc_0.1, hdc_0.2, hdd_58⟩
theorem hdX10_jar : yX10_jar.cls ≠ "java/lang/invoke/MethodHandle" ∧ yX10_jar.cls ≠ "java/lang/invoke/VarHandle" ∧ (parseMethodDescriptor yX10_jar.desc).map (fun d => d.parameters.length) = some 5 := ⟨hdc_6.1, hdc_6.2, hdd_58⟩
theorem hdX11_jar : yX11_jar.cls ≠ "java/lang/invoke/MethodHandle" ∧ yX11_jar.cls ≠ "java/lang/invoke/VarHandle" ∧ (parseMethodDescriptor yX11_jar.desc).map (fun d => d.parameters.length) = some 5 := ⟨hdc_0.1, hdc_0.2, hdd_58⟩
theorem hdX10_month : yX10_month.cls ≠ "java/lang/invoke/MethodHandle" ∧ yX10_month.cls ≠ "java/lang/invoke/VarHandle" ∧ (parseMethodDescriptor yX10_month.desc).map (fun d => d.parameters.length) = some 1 := ⟨hdc_6.1, hdc_6.2, hdd_3⟩
theorem hdX11_month : yX11_month.cls ≠ "java/lang/invoke/MethodHandle" ∧ yX11_month.cls ≠ "java/lang/invoke/VarHandle" ∧ (parseMethodDescriptor yX11_month.desc).map (fun d => d.parameters.length) = some 1 := ⟨hdc_0.1, hdc_0.2, hdd_3⟩
theorem hdX10_seed : yX10_seed.cls ≠ "java/lang/invoke/MethodHandle" ∧ yX10_seed.cls ≠ "java/lang/invoke/VarHandle" ∧ (parseMethodDescriptor yX10_seed.desc).map (fun d => d.parameters.length) = some 1 := ⟨hdc_6.1, hdc_6.2, hdd_3⟩
theorem hdX11_seed : yX11_seed.cls ≠ "java/lang/invoke/MethodHandle" ∧ yX11_seed.cls ≠ "java/lang/invoke/VarHandle" ∧ (parseMethodDescriptor yX11_seed.desc).map (fun d => d.parameters.length) = some 1 := ⟨hdc_0.1, hdc_0.2, hdd_3⟩
theorem hdX10_feed : yX10_feed.cls ≠ "java/lang/invoke/MethodHandle" ∧ yX10_feed.cls ≠ "java/lang/invoke/VarHandle" ∧ (parseMethodDescriptor yX10_feed.desc).map (fun d => d.parameters.length) = some 5 := ⟨hdc_6.1, hdc_6.2, hdd_58⟩
theorem hdX11_feed : yX11_feed.cls ≠ "java/lang/invoke/MethodHandle" ∧ yX11_feed.cls ≠ "java/lang/invoke/VarHandle" ∧ (parseMethodDescriptor yX11_feed.desc).map (fun d => d.parameters.length) = some 5 := ⟨hdc_0.1, hdc_0.2, hdd_58⟩
theorem hdX10_end : yX10_end.cls ≠ "java/lang/invoke/MethodHandle" ∧ yX10_end.cls ≠ "java/lang/invoke/VarHandle" ∧ (parseMethodDescriptor yX10_end.desc).map (fun d => d.parameters.length) = some 1 := ⟨hdc_6.1, hdc_6.2, hdd_3⟩
theorem hdX11_end : yX11_end.cls ≠ "java/lang/invoke/MethodHandle" ∧ yX11_end.cls ≠ "java/lang/invoke/VarHandle" ∧ (parseMethodDescriptor yX11_end.desc).map (fun d => d.parameters.length) = some 1 := ⟨hdc_0.1, hdc_0.2, hdd_3⟩
theorem hdX10_law : yX10_law.cls ≠ "java/lang/invoke/MethodHandle" ∧ yX10_law.cls ≠ "java/lang/invoke/VarHandle" ∧ (parseMethodDescriptor yX10_law.desc).map (fun d => d.parameters.length) = some 0 := ⟨hdc_6.1, hdc_6.2, hdd_6⟩
theorem hdX11_law : yX11_law.cls ≠ "java/lang/invoke/MethodHandle" ∧ yX11_law.cls ≠ "java/lang/invoke/VarHandle" ∧ (parseMethodDescriptor yX11_law.desc).map (fun d => d.parameters.length) = some 0 := ⟨hdc_0.1, hdc_0.2, hdd_6⟩
theorem hdX10_fill : yX10_fill.cls ≠ "java/lang/invoke/MethodHandle" ∧ yX10_fill.cls ≠ "java/lang/invoke/VarHandle" ∧ (parseMethodDescriptor yX10_fill.desc).map (fun d => d.parameters.length) = some 2 := ⟨hdc_6.1, hdc_6.2, hdd_0⟩
theorem hdX11_fill : yX11_fill.cls ≠ "java/lang/invoke/MethodHandle" ∧ yX11_fill.cls ≠ "java/lang/invoke/VarHandle" ∧ (parseMethodDescriptor yX11_fill.desc).map (fun d => d.parameters.length) = some 2 := ⟨hdc_0.1, hdc_0.2, hdd_0⟩
theorem hdX10_pour : yX10_pour.cls ≠ "java/lang/invoke/MethodHandle" ∧ yX10_pour.cls ≠ "java/lang/invoke/VarHandle" ∧ (parseMethodDescriptor yX10_pour.desc).map (fun d => d.parameters.length) = some 1 := ⟨hdc_6.1, hdc_6.2, hdd_3⟩
theorem hdX11_pour : yX11_pour.cls ≠ "java/lang/invoke/MethodHandle" ∧ yX11_pour.cls ≠ "java/lang/invoke/VarHandle" ∧ (parseMethodDescriptor yX11_pour.desc).map (fun d => d.parameters.length) = some 1 := ⟨hdc_0.1, hdc_0.2, hdd_3⟩
theorem hdX10_store : yX10_store.cls ≠ "java/lang/invoke/MethodHandle" ∧ yX10_store.cls ≠ "java/lang/invoke/VarHandle" ∧ (parseMethodDescriptor yX10_store.desc).map (fun d => d.parameters.length) = some 2 := ⟨hdc_6.1, hdc_6.2, hdd_0⟩
theorem hdX11_store : yX11_store.cls ≠ "java/lang/invoke/MethodHandle" ∧ yX11_store.cls ≠ "java/lang/invoke/VarHandle" ∧ (parseMethodDescriptor yX11_store.desc).map (fun d => d.parameters.length) = some 2 := ⟨hdc_0.1, hdc_0.2, hdd_0⟩
theorem hdX10_leave : yX10_leave.cls ≠ "java/lang/invoke/MethodHandle" ∧ yX10_leave.cls ≠ "java/lang/invoke/VarHandle" ∧ (parseMethodDescriptor yX10_leave.desc).map (fun d => d.parameters.length) = some 2 := ⟨hdc_6.1, hdc_6.2, hdd_4⟩
theorem hdX11_leave : yX11_leave.cls ≠ "java/lang/invoke/MethodHandle" ∧ yX11_leave.cls ≠ "java/lang/invoke/VarHandle" ∧ (parseMethodDescriptor yX11_leave.desc).map (fun d => d.parameters.length) = some 2 := ⟨hdc_0.1, hdc_0.2, hdd_4⟩
theorem hdX10_tick : yX10_tick.cls ≠ "java/lang/invoke/MethodHandle" ∧ yX10_tick.cls ≠ "java/lang/invoke/VarHandle" ∧ (parseMethodDescriptor yX10_tick.desc).map (fun d => d.parameters.length) = some 2 := ⟨hdc_6.1, hdc_6.2, hdd_0⟩
theorem hdX11_tick : yX11_tick.cls ≠ "java/lang/invoke/MethodHandle" ∧ yX11_tick.cls ≠ "java/lang/invoke/VarHandle" ∧ (parseMethodDescriptor yX11_tick.desc).map (fun d => d.parameters.length) = some 2 := ⟨hdc_0.1, hdc_0.2, hdd_0⟩
theorem hdX10_at : yX10_at.cls ≠ "java/lang/invoke/MethodHandle" ∧ yX10_at.cls ≠ "java/lang/invoke/VarHandle" ∧ (parseMethodDescriptor yX10_at.desc).map (fun d => d.parameters.length) = some 2 := ⟨hdc_6.1, hdc_6.2, hdd_0⟩
theorem hdX11_at : yX11_at.cls ≠ "java/lang/invoke/MethodHandle" ∧ yX11_at.cls ≠ "java/lang/invoke/VarHandle" ∧ (parseMethodDescriptor yX11_at.desc).map (fun d => d.parameters.length) = some 2 := ⟨hdc_0.1, hdc_0.2, hdd_0⟩
theorem hdX10_of : yX10_of.cls ≠ "java/lang/invoke/MethodHandle" ∧ yX10_of.cls ≠ "java/lang/invoke/VarHandle" ∧ (parseMethodDescriptor yX10_of.desc).map (fun d => d.parameters.length) = some 2 := ⟨hdc_6.1, hdc_6.2, hdd_0⟩
theorem hdX11_of : yX11_of.cls ≠ "java/lang/invoke/MethodHandle" ∧ yX11_of.cls ≠ "java/lang/invoke/VarHandle" ∧ (parseMethodDescriptor yX11_of.desc).map (fun d => d.parameters.length) = some 2 := ⟨hdc_0.1, hdc_0.2, hdd_0⟩
theorem hdX10_melt : yX10_melt.cls ≠ "java/lang/invoke/MethodHandle" ∧ yX10_melt.cls ≠ "java/lang/invoke/VarHandle" ∧ (parseMethodDescriptor yX10_melt.desc).map (fun d => d.parameters.length) = some 2 := ⟨hdc_6.1, hdc_6.2, hdd_0⟩
theorem hdX11_melt : yX11_melt.cls ≠ "java/lang/invoke/MethodHandle" ∧ yX11_melt.cls ≠ "java/lang/invoke/VarHandle" ∧ (parseMethodDescriptor yX11_melt.desc).map (fun d => d.parameters.length) = some 2 := ⟨hdc_0.1, hdc_0.2, hdd_0⟩
theorem hdX10_lay : yX10_lay.cls ≠ "java/lang/invoke/MethodHandle" ∧ yX10_lay.cls ≠ "java/lang/invoke/VarHandle" ∧ (parseMethodDescriptor yX10_lay.desc).map (fun d => d.parameters.length) = some 1 := ⟨hdc_6.1, hdc_6.2, hdd_3⟩
theorem hdX11_lay : yX11_lay.cls ≠ "java/lang/invoke/MethodHandle" ∧ yX11_lay.cls ≠ "java/lang/invoke/VarHandle" ∧ (parseMethodDescriptor yX11_lay.desc).map (fun d => d.parameters.length) = some 1 := ⟨hdc_0.1, hdc_0.2, hdd_3⟩
theorem hdX10_from : yX10_from.cls ≠ "java/lang/invoke/MethodHandle" ∧ yX10_from.cls ≠ "java/lang/invoke/VarHandle" ∧ (parseMethodDescriptor yX10_from.desc).map (fun d => d.parameters.length) = some 1 := ⟨hdc_6.1, hdc_6.2, hdd_1⟩
theorem hdX11_from : yX11_from.cls ≠ "java/lang/invoke/MethodHandle" ∧ yX11_from.cls ≠ "java/lang/invoke/VarHandle" ∧ (parseMethodDescriptor yX11_from.desc).map (fun d => d.parameters.length) = some 1 := ⟨hdc_0.1, hdc_0.2, hdd_1⟩
theorem hdX10_tried : yX10_tried.cls ≠ "java/lang/invoke/MethodHandle" ∧ yX10_tried.cls ≠ "java/lang/invoke/VarHandle" ∧ (parseMethodDescriptor yX10_tried.desc).map (fun d => d.parameters.length) = some 6 := ⟨hdc_6.1, hdc_6.2, hdd_59⟩
theorem hdX11_tried : yX11_tried.cls ≠ "java/lang/invoke/MethodHandle" ∧ yX11_tried.cls ≠ "java/lang/invoke/VarHandle" ∧ (parseMethodDescriptor yX11_tried.desc).map (fun d => d.parameters.length) = some 6 := ⟨hdc_0.1, hdc_0.2, hdd_59⟩
theorem hdX10_best : yX10_best.cls ≠ "java/lang/invoke/MethodHandle" ∧ yX10_best.cls ≠ "java/lang/invoke/VarHandle" ∧ (parseMethodDescriptor yX10_best.desc).map (fun d => d.parameters.length) = some 8 := ⟨hdc_6.1, hdc_6.2, hdd_60⟩
theorem hdX11_best : yX11_best.cls ≠ "java/lang/invoke/MethodHandle" ∧ yX11_best.cls ≠ "java/lang/invoke/VarHandle" ∧ (parseMethodDescriptor yX11_best.desc).map (fun d => d.parameters.length) = some 8 := ⟨hdc_0.1, hdc_0.2, hdd_60⟩
theorem hdX10_soonest : yX10_soonest.cls ≠ "java/lang/invoke/MethodHandle" ∧ yX10_soonest.cls ≠ "java/lang/invoke/VarHandle" ∧ (parseMethodDescriptor yX10_soonest.desc).map (fun d => d.parameters.length) = some 2 := ⟨hdc_6.1, hdc_6.2, hdd_0⟩
theorem hdX11_soonest : yX11_soonest.cls ≠ "java/lang/invoke/MethodHandle" ∧ yX11_soonest.cls ≠ "java/lang/invoke/VarHandle" ∧ (parseMethodDescriptor yX11_soonest.desc).map (fun d => d.parameters.length) = some 2 := ⟨hdc_0.1, hdc_0.2, hdd_0⟩
theorem hdX10_nearest : yX10_nearest.cls ≠ "java/lang/invoke/MethodHandle" ∧ yX10_nearest.cls ≠ "java/lang/invoke/VarHandle" ∧ (parseMethodDescriptor yX10_nearest.desc).map (fun d => d.parameters.length) = some 2 := ⟨hdc_6.1, hdc_6.2, hdd_0⟩
theorem hdX11_nearest : yX11_nearest.cls ≠ "java/lang/invoke/MethodHandle" ∧ yX11_nearest.cls ≠ "java/lang/invoke/VarHandle" ∧ (parseMethodDescriptor yX11_nearest.desc).map (fun d => d.parameters.length) = some 2 := ⟨hdc_0.1, hdc_0.2, hdd_0⟩
theorem hdX10_warmer : yX10_warmer.cls ≠ "java/lang/invoke/MethodHandle" ∧ yX10_warmer.cls ≠ "java/lang/invoke/VarHandle" ∧ (parseMethodDescriptor yX10_warmer.desc).map (fun d => d.parameters.length) = some 6 := ⟨hdc_6.1, hdc_6.2, hdd_59⟩
theorem hdX11_warmer : yX11_warmer.cls ≠ "java/lang/invoke/MethodHandle" ∧ yX11_warmer.cls ≠ "java/lang/invoke/VarHandle" ∧ (parseMethodDescriptor yX11_warmer.desc).map (fun d => d.parameters.length) = some 6 := ⟨hdc_0.1, hdc_0.2, hdd_59⟩
theorem hdX10_guess : yX10_guess.cls ≠ "java/lang/invoke/MethodHandle" ∧ yX10_guess.cls ≠ "java/lang/invoke/VarHandle" ∧ (parseMethodDescriptor yX10_guess.desc).map (fun d => d.parameters.length) = some 9 := ⟨hdc_6.1, hdc_6.2, hdd_61⟩
theorem hdX11_guess : yX11_guess.cls ≠ "java/lang/invoke/MethodHandle" ∧ yX11_guess.cls ≠ "java/lang/invoke/VarHandle" ∧ (parseMethodDescriptor yX11_guess.desc).map (fun d => d.parameters.length) = some 9 := ⟨hdc_0.1, hdc_0.2, hdd_61⟩
theorem hdX10_order : yX10_order.cls ≠ "java/lang/invoke/MethodHandle" ∧ yX10_order.cls ≠ "java/lang/invoke/VarHandle" ∧ (parseMethodDescriptor yX10_order.desc).map (fun d => d.parameters.length) = some 4 := ⟨hdc_6.1, hdc_6.2, hdd_62⟩
theorem hdX11_order : yX11_order.cls ≠ "java/lang/invoke/MethodHandle" ∧ yX11_order.cls ≠ "java/lang/invoke/VarHandle" ∧ (parseMethodDescriptor yX11_order.desc).map (fun d => d.parameters.length) = some 4 := ⟨hdc_0.1, hdc_0.2, hdd_62⟩
theorem hdX10_serves : yX10_serves.cls ≠ "java/lang/invoke/MethodHandle" ∧ yX10_serves.cls ≠ "java/lang/invoke/VarHandle" ∧ (parseMethodDescriptor yX10_serves.desc).map (fun d => d.parameters.length) = some 3 := ⟨hdc_6.1, hdc_6.2, hdd_15⟩
theorem hdX11_serves : yX11_serves.cls ≠ "java/lang/invoke/MethodHandle" ∧ yX11_serves.cls ≠ "java/lang/invoke/VarHandle" ∧ (parseMethodDescriptor yX11_serves.desc).map (fun d => d.parameters.length) = some 3 := ⟨hdc_0.1, hdc_0.2, hdd_15⟩
theorem hdX10_all : yX10_all.cls ≠ "java/lang/invoke/MethodHandle" ∧ yX10_all.cls ≠ "java/lang/invoke/VarHandle" ∧ (parseMethodDescriptor yX10_all.desc).map (fun d => d.parameters.length) = some 2 := ⟨hdc_6.1, hdc_6.2, hdd_0⟩
theorem hdX11_all : yX11_all.cls ≠ "java/lang/invoke/MethodHandle" ∧ yX11_all.cls ≠ "java/lang/invoke/VarHandle" ∧ (parseMethodDescriptor yX11_all.desc).map (fun d => d.parameters.length) = some 2 := ⟨hdc_0.1, hdc_0.2, hdd_0⟩
theorem hdX10_feast : yX10_feast.cls ≠ "java/lang/invoke/MethodHandle" ∧ yX10_feast.cls ≠ "java/lang/invoke/VarHandle" ∧ (parseMethodDescriptor yX10_feast.desc).map (fun d => d.parameters.length) = some 3 := ⟨hdc_6.1, hdc_6.2, hdd_15⟩
theorem hdX11_feast : yX11_feast.cls ≠ "java/lang/invoke/MethodHandle" ∧ yX11_feast.cls ≠ "java/lang/invoke/VarHandle" ∧ (parseMethodDescriptor yX11_feast.desc).map (fun d => d.parameters.length) = some 3 := ⟨hdc_0.1, hdc_0.2, hdd_15⟩
theorem hdX10_enough : yX10_enough.cls ≠ "java/lang/invoke/MethodHandle" ∧ yX10_enough.cls ≠ "java/lang/invoke/VarHandle" ∧ (parseMethodDescriptor yX10_enough.desc).map (fun d => d.parameters.length) = some 3 := ⟨hdc_6.1, hdc_6.2, hdd_15⟩
theorem hdX11_enough : yX11_enough.cls ≠ "java/lang/invoke/MethodHandle" ∧ yX11_enough.cls ≠ "java/lang/invoke/VarHandle" ∧ (parseMethodDescriptor yX11_enough.desc).map (fun d => d.parameters.length) = some 3 := ⟨hdc_0.1, hdc_0.2, hdd_15⟩
theorem hdX10_least : yX10_least.cls ≠ "java/lang/invoke/MethodHandle" ∧ yX10_least.cls ≠ "java/lang/invoke/VarHandle" ∧ (parseMethodDescriptor yX10_least.desc).map (fun d => d.parameters.length) = some 2 := ⟨hdc_6.1, hdc_6.2, hdd_0⟩
theorem hdX11_least : yX11_least.cls ≠ "java/lang/invoke/MethodHandle" ∧ yX11_least.cls ≠ "java/lang/invoke/VarHandle" ∧ (parseMethodDescriptor yX11_least.desc).map (fun d => d.parameters.length) = some 2 := ⟨hdc_0.1, hdc_0.2, hdd_0⟩
theorem hdX10_nights : yX10_nights.cls ≠ "java/lang/invoke/MethodHandle" ∧ yX10_nights.cls ≠ "java/lang/invoke/VarHandle" ∧ (parseMethodDescriptor yX10_nights.desc).map (fun d => d.parameters.length) = some 5 := ⟨hdc_6.1, hdc_6.2, hdd_58⟩
theorem hdX11_nights : yX11_nights.cls ≠ "java/lang/invoke/MethodHandle" ∧ yX11_nights.cls ≠ "java/lang/invoke/VarHandle" ∧ (parseMethodDescriptor yX11_nights.desc).map (fun d => d.parameters.length) = some 5 := ⟨hdc_0.1, hdc_0.2, hdd_58⟩
theorem hdX10_price : yX10_price.cls ≠ "java/lang/invoke/MethodHandle" ∧ yX10_price.cls ≠ "java/lang/invoke/VarHandle" ∧ (parseMethodDescriptor yX10_price.desc).map (fun d => d.parameters.length) = some 6 := ⟨hdc_6.1, hdc_6.2, hdd_59⟩
theorem hdX11_price : yX11_price.cls ≠ "java/lang/invoke/MethodHandle" ∧ yX11_price.cls ≠ "java/lang/invoke/VarHandle" ∧ (parseMethodDescriptor yX11_price.desc).map (fun d => d.parameters.length) = some 6 := ⟨hdc_0.1, hdc_0.2, hdd_59⟩
theorem hdX10_ahead : yX10_ahead.cls ≠ "java/lang/invoke/MethodHandle" ∧ yX10_ahead.cls ≠ "java/lang/invoke/VarHandle" ∧ (parseMethodDescriptor yX10_ahead.desc).map (fun d => d.parameters.length) = some 3 := ⟨hdc_6.1, hdc_6.2, hdd_15⟩
theorem hdX11_ahead : yX11_ahead.cls ≠ "java/lang/invoke/MethodHandle" ∧ yX11_ahead.cls ≠ "java/lang/invoke/VarHandle" ∧ (parseMethodDescriptor yX11_ahead.desc).map (fun d => d.parameters.length) = some 3 := ⟨hdc_0.1, hdc_0.2, hdd_15⟩
theorem hdX10_count : yX10_count.cls ≠ "java/lang/invoke/MethodHandle" ∧ yX10_count.cls ≠ "java/lang/invoke/VarHandle" ∧ (parseMethodDescriptor yX10_count.desc).map (fun d => d.parameters.length) = some 1 := ⟨hdc_6.1, hdc_6.2, hdd_3⟩
theorem hdX11_count : yX11_count.cls ≠ "java/lang/invoke/MethodHandle" ∧ yX11_count.cls ≠ "java/lang/invoke/VarHandle" ∧ (parseMethodDescriptor yX11_count.desc).map (fun d => d.parameters.length) = some 1 := ⟨hdc_0.1, hdc_0.2, hdd_3⟩
theorem hdX10_image : yX10_image.cls ≠ "java/lang/invoke/MethodHandle" ∧ yX10_image.cls ≠ "java/lang/invoke/VarHandle" ∧ (parseMethodDescriptor yX10_image.desc).map (fun d => d.parameters.length) = some 1 := ⟨hdc_6.1, hdc_6.2, hdd_3⟩
theorem hdX11_image : yX11_image.cls ≠ "java/lang/invoke/MethodHandle" ∧ yX11_image.cls ≠ "java/lang/invoke/VarHandle" ∧ (parseMethodDescriptor yX11_image.desc).map (fun d => d.parameters.length) = some 1 := ⟨hdc_0.1, hdc_0.2, hdd_3⟩
theorem hdX10_back : yX10_back.cls ≠ "java/lang/invoke/MethodHandle" ∧ yX10_back.cls ≠ "java/lang/invoke/VarHandle" ∧ (parseMethodDescriptor yX10_back.desc).map (fun d => d.parameters.length) = some 1 := ⟨hdc_6.1, hdc_6.2, hdd_3⟩
theorem hdX11_back : yX11_back.cls ≠ "java/lang/invoke/MethodHandle" ∧ yX11_back.cls ≠ "java/lang/invoke/VarHandle" ∧ (parseMethodDescriptor yX11_back.desc).map (fun d => d.parameters.length) = some 1 := ⟨hdc_0.1, hdc_0.2, hdd_3⟩
def dslL_law_64_0 : List UInt8 := [0x1d, 0x2a, 0xbe, 0x10, 0x0a, 0x64, 0xa3, 0x06, 0xb0, 0x2a, 0x1d, 0x2e, 0x10, 0x3f, 0x7e]
theorem dskL_law_64_0 : (cL_law.data.toList.drop 18).take 15 = dslL_law_64_0 := by decide +kernel
def dstL_law_64_0 : List (Nat × Jvm.ClassFile.Instr × Nat) := [(0, .iload_n 3, 1), (1, .aload_n 0, 1), (2, .arraylength, 1), (3, .bipush 10, 2), (5, .isub, 1), (9, .aload_n 0, 1), (10, .iload_n 3, 1), (11, .iaload, 1), (12, .bipush 63, 2), (14, .iand, 1)]
theorem dsaL_law_64_0 : dstL_law_64_0.all (dqs1 ⟨⟨dslL_law_64_0⟩⟩ 18) = true := by decide +kernel
theorem dL_law_18 : decode cL_law 18 = .ok (.iload_n 3, 1) := (show decode cL_law (18 + 0) = .ok (.iload_n 3, 1) from dqs dskL_law_64_0 dsaL_law_64_0 0 rfl)
theorem dL_law_19 : decode cL_law 19 = .ok (.aload_n 0, 1) := (show decode cL_law (18 + 1) = .ok (.aload_n 0, 1) from dqs dskL_law_64_0 dsaL_law_64_0 1 rfl)
theorem dL_law_20 : decode cL_law 20 = .ok (.arraylength, 1) := (show decode cL_law (18 + 2) = .ok (.arraylength, 1) from dqs dskL_law_64_0 dsaL_law_64_0 2 rfl)
theorem dL_law_21 : decode cL_law 21 = .ok (.bipush 10, 2) := (show decode cL_law (18 + 3) = .ok (.bipush 10, 2) from dqs dskL_law_64_0 dsaL_law_64_0 3 rfl)
theorem dL_law_23 : decode cL_law 23 = .ok (.isub, 1) := (show decode cL_law (18 + 5) = .ok (.isub, 1) from dqs dskL_law_64_0 dsaL_law_64_0 4 rfl)
theorem dL_law_27 : decode cL_law 27 = .ok (.aload_n 0, 1) := (show decode cL_law (18 + 9) = .ok (.aload_n 0, 1) from dqs dskL_law_64_0 dsaL_law_64_0 5 rfl)
theorem dL_law_28 : decode cL_law 28 = .ok (.iload_n 3, 1) := (show decode cL_law (18 + 10) = .ok (.iload_n 3, 1) from dqs dskL_law_64_0 dsaL_law_64_0 6 rfl)
theorem dL_law_29 : decode cL_law 29 = .ok (.iaload, 1) := (show decode cL_law (18 + 11) = .ok (.iaload, 1) from dqs dskL_law_64_0 dsaL_law_64_0 7 rfl)
theorem dL_law_30 : decode cL_law 30 = .ok (.bipush 63, 2) := (show decode cL_law (18 + 12) = .ok (.bipush 63, 2) from dqs dskL_law_64_0 dsaL_law_64_0 8 rfl)
theorem dL_law_32 : decode cL_law 32 = .ok (.iand, 1) := (show decode cL_law (18 + 14) = .ok (.iand, 1) from dqs dskL_law_64_0 dsaL_law_64_0 9 rfl)
def dslL_law_64_1 : List UInt8 := [0x2b, 0x2a, 0x1d, 0x04, 0x60, 0x2e, 0x2a, 0x1d, 0x05, 0x60, 0x2e, 0x2a, 0x1d, 0x06, 0x60, 0x2e, 0xb6, 0x00, 0x0d, 0x57, 0x2c, 0x2a, 0x1d, 0x04, 0x60, 0x2e, 0x2a, 0x1d, 0x05, 0x60, 0x2e, 0x2a, 0x1d, 0x06, 0x60, 0x2e, 0xb6, 0x00, 0x11, 0x57, 0xa7, 0x05, 0xda, 0x2b, 0x2a, 0x1d, 0x04, 0x60, 0x2e, 0x2a, 0x1d, 0x05, 0x60, 0x2e, 0x2a, 0x1d, 0x06, 0x60, 0x2e, 0x2a, 0x1d, 0x07, 0x60, 0x2e]
theorem dskL_law_64_1 : (cL_law.data.toList.drop 192).take 64 = dslL_law_64_1 := by decide +kernel
def dstL_law_64_1 : List (Nat × Jvm.ClassFile.Instr × Nat) := [(0, .aload_n 1, 1), (1, .aload_n 0, 1), (2, .iload_n 3, 1), (3, .iconst 1, 1), (4, .iadd, 1), (5, .iaload, 1), (6, .aload_n 0, 1), (7, .iload_n 3, 1), (8, .iconst 2, 1), (9, .iadd, 1), (10, .iaload, 1), (11, .aload_n 0, 1), (12, .iload_n 3, 1), (13, .iconst 3, 1), (14, .iadd, 1), (15, .iaload, 1), (16, .invokevirtual 13, 3), (19, .pop, 1), (20, .aload_n 2, 1), (21, .aload_n 0, 1), (22, .iload_n 3, 1), (23, .iconst 1, 1), (24, .iadd, 1), (25, .iaload, 1), (26, .aload_n 0, 1), (27, .iload_n 3, 1), (28, .iconst 2, 1), (29, .iadd, 1), (30, .iaload, 1), (31, .aload_n 0, 1), (32, .iload_n 3, 1), (33, .iconst 3, 1), (34, .iadd, 1), (35, .iaload, 1), (36, .invokevirtual 17, 3), (39, .pop, 1), (40, .goto 1498, 3), (43, .aload_n 1, 1), (44, .aload_n 0, 1), (45, .iload_n 3, 1), (46, .iconst 1, 1), (47, .iadd, 1), (48, .iaload, 1), (49, .aload_n 0, 1), (50, .iload_n 3, 1), (51, .iconst 2, 1), (52, .iadd, 1), (53, .iaload, 1), (54, .aload_n 0, 1), (55, .iload_n 3, 1), (56, .iconst 3, 1), (57, .iadd, 1), (58, .iaload, 1), (59, .aload_n 0, 1), (60, .iload_n 3, 1), (61, .iconst 4, 1), (62, .iadd, 1), (63, .iaload, 1)]
theorem dsaL_law_64_1 : dstL_law_64_1.all (dqs1 ⟨⟨dslL_law_64_1⟩⟩ 192) = true := by decide +kernel
theorem dL_law_192 : decode cL_law 192 = .ok (.aload_n 1, 1) := (show decode cL_law (192 + 0) = .ok (.aload_n 1, 1) from dqs dskL_law_64_1 dsaL_law_64_1 0 rfl)
theorem dL_law_193 : decode cL_law 193 = .ok (.aload_n 0, 1) := (show decode cL_law (192 + 1) = .ok (.aload_n 0, 1) from dqs dskL_law_64_1 dsaL_law_64_1 1 rfl)
theorem dL_law_194 : decode cL_law 194 = .ok (.iload_n 3, 1) := (show decode cL_law (192 + 2) = .ok (.iload_n 3, 1) from dqs dskL_law_64_1 dsaL_law_64_1 2 rfl)
theorem dL_law_195 : decode cL_law 195 = .ok (.iconst 1, 1) := (show decode cL_law (192 + 3) = .ok (.iconst 1, 1) from dqs dskL_law_64_1 dsaL_law_64_1 3 rfl)
theorem dL_law_196 : decode cL_law 196 = .ok (.iadd, 1) := (show decode cL_law (192 + 4) = .ok (.iadd, 1) from dqs dskL_law_64_1 dsaL_law_64_1 4 rfl)
theorem dL_law_197 : decode cL_law 197 = .ok (.iaload, 1) := (show decode cL_law (192 + 5) = .ok (.iaload, 1) from dqs dskL_law_64_1 dsaL_law_64_1 5 rfl)
theorem dL_law_198 : decode cL_law 198 = .ok (.aload_n 0, 1) := (show decode cL_law (192 + 6) = .ok (.aload_n 0, 1) from dqs dskL_law_64_1 dsaL_law_64_1 6 rfl)
theorem dL_law_199 : decode cL_law 199 = .ok (.iload_n 3, 1) := (show decode cL_law (192 + 7) = .ok (.iload_n 3, 1) from dqs dskL_law_64_1 dsaL_law_64_1 7 rfl)
theorem dL_law_200 : decode cL_law 200 = .ok (.iconst 2, 1) := (show decode cL_law (192 + 8) = .ok (.iconst 2, 1) from dqs dskL_law_64_1 dsaL_law_64_1 8 rfl)
theorem dL_law_201 : decode cL_law 201 = .ok (.iadd, 1) := (show decode cL_law (192 + 9) = .ok (.iadd, 1) from dqs dskL_law_64_1 dsaL_law_64_1 9 rfl)
theorem dL_law_202 : decode cL_law 202 = .ok (.iaload, 1) := (show decode cL_law (192 + 10) = .ok (.iaload, 1) from dqs dskL_law_64_1 dsaL_law_64_1 10 rfl)
theorem dL_law_203 : decode cL_law 203 = .ok (.aload_n 0, 1) := (show decode cL_law (192 + 11) = .ok (.aload_n 0, 1) from dqs dskL_law_64_1 dsaL_law_64_1 11 rfl)
theorem dL_law_204 : decode cL_law 204 = .ok (.iload_n 3, 1) := (show decode cL_law (192 + 12) = .ok (.iload_n 3, 1) from dqs dskL_law_64_1 dsaL_law_64_1 12 rfl)
theorem dL_law_205 : decode cL_law 205 = .ok (.iconst 3, 1) := (show decode cL_law (192 + 13) = .ok (.iconst 3, 1) from dqs dskL_law_64_1 dsaL_law_64_1 13 rfl)
theorem dL_law_206 : decode cL_law 206 = .ok (.iadd, 1) := (show decode cL_law (192 + 14) = .ok (.iadd, 1) from dqs dskL_law_64_1 dsaL_law_64_1 14 rfl)
theorem dL_law_207 : decode cL_law 207 = .ok (.iaload, 1) := (show decode cL_law (192 + 15) = .ok (.iaload, 1) from dqs dskL_law_64_1 dsaL_law_64_1 15 rfl)
theorem dL_law_208 : decode cL_law 208 = .ok (.invokevirtual 13, 3) := (show decode cL_law (192 + 16) = .ok (.invokevirtual 13, 3) from dqs dskL_law_64_1 dsaL_law_64_1 16 rfl)
theorem dL_law_211 : decode cL_law 211 = .ok (.pop, 1) := (show decode cL_law (192 + 19) = .ok (.pop, 1) from dqs dskL_law_64_1 dsaL_law_64_1 17 rfl)
theorem dL_law_212 : decode cL_law 212 = .ok (.aload_n 2, 1) := (show decode cL_law (192 + 20) = .ok (.aload_n 2, 1) from dqs dskL_law_64_1 dsaL_law_64_1 18 rfl)
theorem dL_law_213 : decode cL_law 213 = .ok (.aload_n 0, 1) := (show decode cL_law (192 + 21) = .ok (.aload_n 0, 1) from dqs dskL_law_64_1 dsaL_law_64_1 19 rfl)
theorem dL_law_214 : decode cL_law 214 = .ok (.iload_n 3, 1) := (show decode cL_law (192 + 22) = .ok (.iload_n 3, 1) from dqs dskL_law_64_1 dsaL_law_64_1 20 rfl)
theorem dL_law_215 : decode cL_law 215 = .ok (.iconst 1, 1) := (show decode cL_law (192 + 23) = .ok (.iconst 1, 1) from dqs dskL_law_64_1 dsaL_law_64_1 21 rfl)
theorem dL_law_216 : decode cL_law 216 = .ok (.iadd, 1) := (show decode cL_law (192 + 24) = .ok (.iadd, 1) from dqs dskL_law_64_1 dsaL_law_64_1 22 rfl)
theorem dL_law_217 : decode cL_law 217 = .ok (.iaload, 1) := (show decode cL_law (192 + 25) = .ok (.iaload, 1) from dqs dskL_law_64_1 dsaL_law_64_1 23 rfl)
theorem dL_law_218 : decode cL_law 218 = .ok (.aload_n 0, 1) := (show decode cL_law (192 + 26) = .ok (.aload_n 0, 1) from dqs dskL_law_64_1 dsaL_law_64_1 24 rfl)
theorem dL_law_219 : decode cL_law 219 = .ok (.iload_n 3, 1) := (show decode cL_law (192 + 27) = .ok (.iload_n 3, 1) from dqs dskL_law_64_1 dsaL_law_64_1 25 rfl)
theorem dL_law_220 : decode cL_law 220 = .ok (.iconst 2, 1) := (show decode cL_law (192 + 28) = .ok (.iconst 2, 1) from dqs dskL_law_64_1 dsaL_law_64_1 26 rfl)
theorem dL_law_221 : decode cL_law 221 = .ok (.iadd, 1) := (show decode cL_law (192 + 29) = .ok (.iadd, 1) from dqs dskL_law_64_1 dsaL_law_64_1 27 rfl)
theorem dL_law_222 : decode cL_law 222 = .ok (.iaload, 1) := (show decode cL_law (192 + 30) = .ok (.iaload, 1) from dqs dskL_law_64_1 dsaL_law_64_1 28 rfl)
theorem dL_law_223 : decode cL_law 223 = .ok (.aload_n 0, 1) := (show decode cL_law (192 + 31) = .ok (.aload_n 0, 1) from dqs dskL_law_64_1 dsaL_law_64_1 29 rfl)
theorem dL_law_224 : decode cL_law 224 = .ok (.iload_n 3, 1) := (show decode cL_law (192 + 32) = .ok (.iload_n 3, 1) from dqs dskL_law_64_1 dsaL_law_64_1 30 rfl)
theorem dL_law_225 : decode cL_law 225 = .ok (.iconst 3, 1) := (show decode cL_law (192 + 33) = .ok (.iconst 3, 1) from dqs dskL_law_64_1 dsaL_law_64_1 31 rfl)
theorem dL_law_226 : decode cL_law 226 = .ok (.iadd, 1) := (show decode cL_law (192 + 34) = .ok (.iadd, 1) from dqs dskL_law_64_1 dsaL_law_64_1 32 rfl)
theorem dL_law_227 : decode cL_law 227 = .ok (.iaload, 1) := (show decode cL_law (192 + 35) = .ok (.iaload, 1) from dqs dskL_law_64_1 dsaL_law_64_1 33 rfl)
theorem dL_law_228 : decode cL_law 228 = .ok (.invokevirtual 17, 3) := (show decode cL_law (192 + 36) = .ok (.invokevirtual 17, 3) from dqs dskL_law_64_1 dsaL_law_64_1 34 rfl)
theorem dL_law_231 : decode cL_law 231 = .ok (.pop, 1) := (show decode cL_law (192 + 39) = .ok (.pop, 1) from dqs dskL_law_64_1 dsaL_law_64_1 35 rfl)
theorem dL_law_232 : decode cL_law 232 = .ok (.goto 1498, 3) := (show decode cL_law (192 + 40) = .ok (.goto 1498, 3) from dqs dskL_law_64_1 dsaL_law_64_1 36 rfl)
theorem dL_law_235 : decode cL_law 235 = .ok (.aload_n 1, 1) := (show decode cL_law (192 + 43) = .ok (.aload_n 1, 1) from dqs dskL_law_64_1 dsaL_law_64_1 37 rfl)
theorem dL_law_236 : decode cL_law 236 = .ok (.aload_n 0, 1) := (show decode cL_law (192 + 44) = .ok (.aload_n 0, 1) from dqs dskL_law_64_1 dsaL_law_64_1 38 rfl)
theorem dL_law_237 : decode cL_law 237 = .ok (.iload_n 3, 1) := (show decode cL_law (192 + 45) = .ok (.iload_n 3, 1) from dqs dskL_law_64_1 dsaL_law_64_1 39 rfl)
theorem dL_law_238 : decode cL_law 238 = .ok (.iconst 1, 1) := (show decode cL_law (192 + 46) = .ok (.iconst 1, 1) from dqs dskL_law_64_1 dsaL_law_64_1 40 rfl)
theorem dL_law_239 : decode cL_law 239 = .ok (.iadd, 1) := (show decode cL_law (192 + 47) = .ok (.iadd, 1) from dqs dskL_law_64_1 dsaL_law_64_1 41 rfl)
theorem dL_law_240 : decode cL_law 240 = .ok (.iaload, 1) := (show decode cL_law (192 + 48) = .ok (.iaload, 1) from dqs dskL_law_64_1 dsaL_law_64_1 42 rfl)
theorem dL_law_241 : decode cL_law 241 = .ok (.aload_n 0, 1) := (show decode cL_law (192 + 49) = .ok (.aload_n 0, 1) from dqs dskL_law_64_1 dsaL_law_64_1 43 rfl)
theorem dL_law_242 : decode cL_law 242 = .ok (.iload_n 3, 1) := (show decode cL_law (192 + 50) = .ok (.iload_n 3, 1) from dqs dskL_law_64_1 dsaL_law_64_1 44 rfl)
theorem dL_law_243 : decode cL_law 243 = .ok (.iconst 2, 1) := (show decode cL_law (192 + 51) = .ok (.iconst 2, 1) from dqs dskL_law_64_1 dsaL_law_64_1 45 rfl)
theorem dL_law_244 : decode cL_law 244 = .ok (.iadd, 1) := (show decode cL_law (192 + 52) = .ok (.iadd, 1) from dqs dskL_law_64_1 dsaL_law_64_1 46 rfl)
theorem dL_law_245 : decode cL_law 245 = .ok (.iaload, 1) := (show decode cL_law (192 + 53) = .ok (.iaload, 1) from dqs dskL_law_64_1 dsaL_law_64_1 47 rfl)
theorem dL_law_246 : decode cL_law 246 = .ok (.aload_n 0, 1) := (show decode cL_law (192 + 54) = .ok (.aload_n 0, 1) from dqs dskL_law_64_1 dsaL_law_64_1 48 rfl)
theorem dL_law_247 : decode cL_law 247 = .ok (.iload_n 3, 1) := (show decode cL_law (192 + 55) = .ok (.iload_n 3, 1) from dqs dskL_law_64_1 dsaL_law_64_1 49 rfl)
theorem dL_law_248 : decode cL_law 248 = .ok (.iconst 3, 1) := (show decode cL_law (192 + 56) = .ok (.iconst 3, 1) from dqs dskL_law_64_1 dsaL_law_64_1 50 rfl)
theorem dL_law_249 : decode cL_law 249 = .ok (.iadd, 1) := (show decode cL_law (192 + 57) = .ok (.iadd, 1) from dqs dskL_law_64_1 dsaL_law_64_1 51 rfl)
theorem dL_law_250 : decode cL_law 250 = .ok (.iaload, 1) := (show decode cL_law (192 + 58) = .ok (.iaload, 1) from dqs dskL_law_64_1 dsaL_law_64_1 52 rfl)
theorem dL_law_251 : decode cL_law 251 = .ok (.aload_n 0, 1) := (show decode cL_law (192 + 59) = .ok (.aload_n 0, 1) from dqs dskL_law_64_1 dsaL_law_64_1 53 rfl)
theorem dL_law_252 : decode cL_law 252 = .ok (.iload_n 3, 1) := (show decode cL_law (192 + 60) = .ok (.iload_n 3, 1) from dqs dskL_law_64_1 dsaL_law_64_1 54 rfl)
theorem dL_law_253 : decode cL_law 253 = .ok (.iconst 4, 1) := (show decode cL_law (192 + 61) = .ok (.iconst 4, 1) from dqs dskL_law_64_1 dsaL_law_64_1 55 rfl)
theorem dL_law_254 : decode cL_law 254 = .ok (.iadd, 1) := (show decode cL_law (192 + 62) = .ok (.iadd, 1) from dqs dskL_law_64_1 dsaL_law_64_1 56 rfl)
theorem dL_law_255 : decode cL_law 255 = .ok (.iaload, 1) := (show decode cL_law (192 + 63) = .ok (.iaload, 1) from dqs dskL_law_64_1 dsaL_law_64_1 57 rfl)
def dslL_law_64_2 : List UInt8 := [0x2a, 0x1d, 0x08, 0x60, 0x2e, 0xb6, 0x00, 0x12, 0x57, 0x2c, 0x2a, 0x1d, 0x04, 0x60, 0x2e, 0x2a, 0x1d, 0x05, 0x60, 0x2e, 0x2a, 0x1d, 0x06, 0x60, 0x2e, 0x2a, 0x1d, 0x07, 0x60, 0x2e, 0x2a, 0x1d, 0x08, 0x60, 0x2e, 0xb6, 0x00, 0x16, 0x57, 0xa7, 0x05, 0x9b, 0x2b, 0x2a, 0x1d, 0x04, 0x60, 0x2e, 0x2a, 0x1d, 0x05, 0x60, 0x2e, 0x2a, 0x1d, 0x06, 0x60, 0x2e, 0x2a, 0x1d, 0x07, 0x60, 0x2e, 0x2a]
theorem dskL_law_64_2 : (cL_law.data.toList.drop 256).take 64 = dslL_law_64_2 := by decide +kernel
def dstL_law_64_2 : List (Nat × Jvm.ClassFile.Instr × Nat) := [(0, .aload_n 0, 1), (1, .iload_n 3, 1), (2, .iconst 5, 1), (3, .iadd, 1), (4, .iaload, 1), (5, .invokevirtual 18, 3), (8, .pop, 1), (9, .aload_n 2, 1), (10, .aload_n 0, 1), (11, .iload_n 3, 1), (12, .iconst 1, 1), (13, .iadd, 1), (14, .iaload, 1), (15, .aload_n 0, 1), (16, .iload_n 3, 1), (17, .iconst 2, 1), (18, .iadd, 1), (19, .iaload, 1), (20, .aload_n 0, 1), (21, .iload_n 3, 1), (22, .iconst 3, 1), (23, .iadd, 1), (24, .iaload, 1), (25, .aload_n 0, 1), (26, .iload_n 3, 1), (27, .iconst 4, 1), (28, .iadd, 1), (29, .iaload, 1), (30, .aload_n 0, 1), (31, .iload_n 3, 1), (32, .iconst 5, 1), (33, .iadd, 1), (34, .iaload, 1), (35, .invokevirtual 22, 3), (38, .pop, 1), (39, .goto 1435, 3), (42, .aload_n 1, 1), (43, .aload_n 0, 1), (44, .iload_n 3, 1), (45, .iconst 1, 1), (46, .iadd, 1), (47, .iaload, 1), (48, .aload_n 0, 1), (49, .iload_n 3, 1), (50, .iconst 2, 1), (51, .iadd, 1), (52, .iaload, 1), (53, .aload_n 0, 1), (54, .iload_n 3, 1), (55, .iconst 3, 1), (56, .iadd, 1), (57, .iaload, 1), (58, .aload_n 0, 1), (59, .iload_n 3, 1), (60, .iconst 4, 1), (61, .iadd, 1), (62, .iaload, 1), (63, .aload_n 0, 1)]
theorem dsaL_law_64_2 : dstL_law_64_2.all (dqs1 ⟨⟨dslL_law_64_2⟩⟩ 256) = true := by decide +kernel
theorem dL_law_256 : decode cL_law 256 = .ok (.aload_n 0, 1) := (show decode cL_law (256 + 0) = .ok (.aload_n 0, 1) from dqs dskL_law_64_2 dsaL_law_64_2 0 rfl)
theorem dL_law_257 : decode cL_law 257 = .ok (.iload_n 3, 1) := (show decode cL_law (256 + 1) = .ok (.iload_n 3, 1) from dqs dskL_law_64_2 dsaL_law_64_2 1 rfl)
theorem dL_law_258 : decode cL_law 258 = .ok (.iconst 5, 1) := (show decode cL_law (256 + 2) = .ok (.iconst 5, 1) from dqs dskL_law_64_2 dsaL_law_64_2 2 rfl)
theorem dL_law_259 : decode cL_law 259 = .ok (.iadd, 1) := (show decode cL_law (256 + 3) = .ok (.iadd, 1) from dqs dskL_law_64_2 dsaL_law_64_2 3 rfl)
theorem dL_law_260 : decode cL_law 260 = .ok (.iaload, 1) := (show decode cL_law (256 + 4) = .ok (.iaload, 1) from dqs dskL_law_64_2 dsaL_law_64_2 4 rfl)
theorem dL_law_261 : decode cL_law 261 = .ok (.invokevirtual 18, 3) := (show decode cL_law (256 + 5) = .ok (.invokevirtual 18, 3) from dqs dskL_law_64_2 dsaL_law_64_2 5 rfl)
theorem dL_law_264 : decode cL_law 264 = .ok (.pop, 1) := (show decode cL_law (256 + 8) = .ok (.pop, 1) from dqs dskL_law_64_2 dsaL_law_64_2 6 rfl)
theorem dL_law_265 : decode cL_law 265 = .ok (.aload_n 2, 1) := (show decode cL_law (256 + 9) = .ok (.aload_n 2, 1) from dqs dskL_law_64_2 dsaL_law_64_2 7 rfl)
theorem dL_law_266 : decode cL_law 266 = .ok (.aload_n 0, 1) := (show decode cL_law (256 + 10) = .ok (.aload_n 0, 1) from dqs dskL_law_64_2 dsaL_law_64_2 8 rfl)
theorem dL_law_267 : decode cL_law 267 = .ok (.iload_n 3, 1) := (show decode cL_law (256 + 11) = .ok (.iload_n 3, 1) from dqs dskL_law_64_2 dsaL_law_64_2 9 rfl)
theorem dL_law_268 : decode cL_law 268 = .ok (.iconst 1, 1) := (show decode cL_law (256 + 12) = .ok (.iconst 1, 1) from dqs dskL_law_64_2 dsaL_law_64_2 10 rfl)
theorem dL_law_269 : decode cL_law 269 = .ok (.iadd, 1) := (show decode cL_law (256 + 13) = .ok (.iadd, 1) from dqs dskL_law_64_2 dsaL_law_64_2 11 rfl)
theorem dL_law_270 : decode cL_law 270 = .ok (.iaload, 1) := (show decode cL_law (256 + 14) = .ok (.iaload, 1) from dqs dskL_law_64_2 dsaL_law_64_2 12 rfl)
theorem dL_law_271 : decode cL_law 271 = .ok (.aload_n 0, 1) := (show decode cL_law (256 + 15) = .ok (.aload_n 0, 1) from dqs dskL_law_64_2 dsaL_law_64_2 13 rfl)
theorem dL_law_272 : decode cL_law 272 = .ok (.iload_n 3, 1) := (show decode cL_law (256 + 16) = .ok (.iload_n 3, 1) from dqs dskL_law_64_2 dsaL_law_64_2 14 rfl)
theorem dL_law_273 : decode cL_law 273 = .ok (.iconst 2, 1) := (show decode cL_law (256 + 17) = .ok (.iconst 2, 1) from dqs dskL_law_64_2 dsaL_law_64_2 15 rfl)
theorem dL_law_274 : decode cL_law 274 = .ok (.iadd, 1) := (show decode cL_law (256 + 18) = .ok (.iadd, 1) from dqs dskL_law_64_2 dsaL_law_64_2 16 rfl)
theorem dL_law_275 : decode cL_law 275 = .ok (.iaload, 1) := (show decode cL_law (256 + 19) = .ok (.iaload, 1) from dqs dskL_law_64_2 dsaL_law_64_2 17 rfl)
theorem dL_law_276 : decode cL_law 276 = .ok (.aload_n 0, 1) := (show decode cL_law (256 + 20) = .ok (.aload_n 0, 1) from dqs dskL_law_64_2 dsaL_law_64_2 18 rfl)
theorem dL_law_277 : decode cL_law 277 = .ok (.iload_n 3, 1) := (show decode cL_law (256 + 21) = .ok (.iload_n 3, 1) from dqs dskL_law_64_2 dsaL_law_64_2 19 rfl)
theorem dL_law_278 : decode cL_law 278 = .ok (.iconst 3, 1) := (show decode cL_law (256 + 22) = .ok (.iconst 3, 1) from dqs dskL_law_64_2 dsaL_law_64_2 20 rfl)
theorem dL_law_279 : decode cL_law 279 = .ok (.iadd, 1) := (show decode cL_law (256 + 23) = .ok (.iadd, 1) from dqs dskL_law_64_2 dsaL_law_64_2 21 rfl)
theorem dL_law_280 : decode cL_law 280 = .ok (.iaload, 1) := (show decode cL_law (256 + 24) = .ok (.iaload, 1) from dqs dskL_law_64_2 dsaL_law_64_2 22 rfl)
theorem dL_law_281 : decode cL_law 281 = .ok (.aload_n 0, 1) := (show decode cL_law (256 + 25) = .ok (.aload_n 0, 1) from dqs dskL_law_64_2 dsaL_law_64_2 23 rfl)
theorem dL_law_282 : decode cL_law 282 = .ok (.iload_n 3, 1) := (show decode cL_law (256 + 26) = .ok (.iload_n 3, 1) from dqs dskL_law_64_2 dsaL_law_64_2 24 rfl)
theorem dL_law_283 : decode cL_law 283 = .ok (.iconst 4, 1) := (show decode cL_law (256 + 27) = .ok (.iconst 4, 1) from dqs dskL_law_64_2 dsaL_law_64_2 25 rfl)
theorem dL_law_284 : decode cL_law 284 = .ok (.iadd, 1) := (show decode cL_law (256 + 28) = .ok (.iadd, 1) from dqs dskL_law_64_2 dsaL_law_64_2 26 rfl)
theorem dL_law_285 : decode cL_law 285 = .ok (.iaload, 1) := (show decode cL_law (256 + 29) = .ok (.iaload, 1) from dqs dskL_law_64_2 dsaL_law_64_2 27 rfl)
theorem dL_law_286 : decode cL_law 286 = .ok (.aload_n 0, 1) := (show decode cL_law (256 + 30) = .ok (.aload_n 0, 1) from dqs dskL_law_64_2 dsaL_law_64_2 28 rfl)
theorem dL_law_287 : decode cL_law 287 = .ok (.iload_n 3, 1) := (show decode cL_law (256 + 31) = .ok (.iload_n 3, 1) from dqs dskL_law_64_2 dsaL_law_64_2 29 rfl)
theorem dL_law_288 : decode cL_law 288 = .ok (.iconst 5, 1) := (show decode cL_law (256 + 32) = .ok (.iconst 5, 1) from dqs dskL_law_64_2 dsaL_law_64_2 30 rfl)
theorem dL_law_289 : decode cL_law 289 = .ok (.iadd, 1) := (show decode cL_law (256 + 33) = .ok (.iadd, 1) from dqs dskL_law_64_2 dsaL_law_64_2 31 rfl)
theorem dL_law_290 : decode cL_law 290 = .ok (.iaload, 1) := (show decode cL_law (256 + 34) = .ok (.iaload, 1) from dqs dskL_law_64_2 dsaL_law_64_2 32 rfl)
theorem dL_law_291 : decode cL_law 291 = .ok (.invokevirtual 22, 3) := (show decode cL_law (256 + 35) = .ok (.invokevirtual 22, 3) from dqs dskL_law_64_2 dsaL_law_64_2 33 rfl)
theorem dL_law_294 : decode cL_law 294 = .ok (.pop, 1) := (show decode cL_law (256 + 38) = .ok (.pop, 1) from dqs dskL_law_64_2 dsaL_law_64_2 34 rfl)
theorem dL_law_295 : decode cL_law 295 = .ok (.goto 1435, 3) := (show decode cL_law (256 + 39) = .ok (.goto 1435, 3) from dqs dskL_law_64_2 dsaL_law_64_2 35 rfl)
theorem dL_law_298 : decode cL_law 298 = .ok (.aload_n 1, 1) := (show decode cL_law (256 + 42) = .ok (.aload_n 1, 1) from dqs dskL_law_64_2 dsaL_law_64_2 36 rfl)
theorem dL_law_299 : decode cL_law 299 = .ok (.aload_n 0, 1) := (show decode cL_law (256 + 43) = .ok (.aload_n 0, 1) from dqs dskL_law_64_2 dsaL_law_64_2 37 rfl)
theorem dL_law_300 : decode cL_law 300 = .ok (.iload_n 3, 1) := (show decode cL_law (256 + 44) = .ok (.iload_n 3, 1) from dqs dskL_law_64_2 dsaL_law_64_2 38 rfl)
theorem dL_law_301 : decode cL_law 301 = .ok (.iconst 1, 1) := (show decode cL_law (256 + 45) = .ok (.iconst 1, 1) from dqs dskL_law_64_2 dsaL_law_64_2 39 rfl)
theorem dL_law_302 : decode cL_law 302 = .ok (.iadd, 1) := (show decode cL_law (256 + 46) = .ok (.iadd, 1) from dqs dskL_law_64_2 dsaL_law_64_2 40 rfl)
theorem dL_law_303 : decode cL_law 303 = .ok (.iaload, 1) := (show decode cL_law (256 + 47) = .ok (.iaload, 1) from dqs dskL_law_64_2 dsaL_law_64_2 41 rfl)
theorem dL_law_304 : decode cL_law 304 = .ok (.aload_n 0, 1) := (show decode cL_law (256 + 48) = .ok (.aload_n 0, 1) from dqs dskL_law_64_2 dsaL_law_64_2 42 rfl)
theorem dL_law_305 : decode cL_law 305 = .ok (.iload_n 3, 1) := (show decode cL_law (256 + 49) = .ok (.iload_n 3, 1) from dqs dskL_law_64_2 dsaL_law_64_2 43 rfl)
theorem dL_law_306 : decode cL_law 306 = .ok (.iconst 2, 1) := (show decode cL_law (256 + 50) = .ok (.iconst 2, 1) from dqs dskL_law_64_2 dsaL_law_64_2 44 rfl)
theorem dL_law_307 : decode cL_law 307 = .ok (.iadd, 1) := (show decode cL_law (256 + 51) = .ok (.iadd, 1) from dqs dskL_law_64_2 dsaL_law_64_2 45 rfl)
theorem dL_law_308 : decode cL_law 308 = .ok (.iaload, 1) := (show decode cL_law (256 + 52) = .ok (.iaload, 1) from dqs dskL_law_64_2 dsaL_law_64_2 46 rfl)
theorem dL_law_309 : decode cL_law 309 = .ok (.aload_n 0, 1) := (show decode cL_law (256 + 53) = .ok (.aload_n 0, 1) from dqs dskL_law_64_2 dsaL_law_64_2 47 rfl)
theorem dL_law_310 : decode cL_law 310 = .ok (.iload_n 3, 1) := (show decode cL_law (256 + 54) = .ok (.iload_n 3, 1) from dqs dskL_law_64_2 dsaL_law_64_2 48 rfl)
theorem dL_law_311 : decode cL_law 311 = .ok (.iconst 3, 1) := (show decode cL_law (256 + 55) = .ok (.iconst 3, 1) from dqs dskL_law_64_2 dsaL_law_64_2 49 rfl)
theorem dL_law_312 : decode cL_law 312 = .ok (.iadd, 1) := (show decode cL_law (256 + 56) = .ok (.iadd, 1) from dqs dskL_law_64_2 dsaL_law_64_2 50 rfl)
theorem dL_law_313 : decode cL_law 313 = .ok (.iaload, 1) := (show decode cL_law (256 + 57) = .ok (.iaload, 1) from dqs dskL_law_64_2 dsaL_law_64_2 51 rfl)
theorem dL_law_314 : decode cL_law 314 = .ok (.aload_n 0, 1) := (show decode cL_law (256 + 58) = .ok (.aload_n 0, 1) from dqs dskL_law_64_2 dsaL_law_64_2 52 rfl)
theorem dL_law_315 : decode cL_law 315 = .ok (.iload_n 3, 1) := (show decode cL_law (256 + 59) = .ok (.iload_n 3, 1) from dqs dskL_law_64_2 dsaL_law_64_2 53 rfl)
theorem dL_law_316 : decode cL_law 316 = .ok (.iconst 4, 1) := (show decode cL_law (256 + 60) = .ok (.iconst 4, 1) from dqs dskL_law_64_2 dsaL_law_64_2 54 rfl)
theorem dL_law_317 : decode cL_law 317 = .ok (.iadd, 1) := (show decode cL_law (256 + 61) = .ok (.iadd, 1) from dqs dskL_law_64_2 dsaL_law_64_2 55 rfl)
theorem dL_law_318 : decode cL_law 318 = .ok (.iaload, 1) := (show decode cL_law (256 + 62) = .ok (.iaload, 1) from dqs dskL_law_64_2 dsaL_law_64_2 56 rfl)
theorem dL_law_319 : decode cL_law 319 = .ok (.aload_n 0, 1) := (show decode cL_law (256 + 63) = .ok (.aload_n 0, 1) from dqs dskL_law_64_2 dsaL_law_64_2 57 rfl)
def dslL_law_64_3 : List UInt8 := [0x1d, 0x08, 0x60, 0x2e, 0xb6, 0x00, 0x17, 0x57, 0x2c, 0x2a, 0x1d, 0x04, 0x60, 0x2e, 0x2a, 0x1d, 0x05, 0x60, 0x2e, 0x2a, 0x1d, 0x06, 0x60, 0x2e, 0x2a, 0x1d, 0x07, 0x60, 0x2e, 0x2a, 0x1d, 0x08, 0x60, 0x2e, 0xb6, 0x00, 0x1a, 0x57, 0xa7, 0x05, 0x5c, 0x2b, 0x2a, 0x1d, 0x04, 0x60, 0x2e, 0xb6, 0x00, 0x1b, 0x57, 0x2c, 0x2a, 0x1d, 0x04, 0x60, 0x2e, 0xb6, 0x00, 0x1f, 0x57, 0xa7, 0x05, 0x45]
theorem dskL_law_64_3 : (cL_law.data.toList.drop 320).take 64 = dslL_law_64_3 := by decide +kernel
def dstL_law_64_3 : List (Nat × Jvm.ClassFile.Instr × Nat) := [(0, .iload_n 3, 1), (1, .iconst 5, 1), (2, .iadd, 1), (3, .iaload, 1), (4, .invokevirtual 23, 3), (7, .pop, 1), (8, .aload_n 2, 1), (9, .aload_n 0, 1), (10, .iload_n 3, 1), (11, .iconst 1, 1), (12, .iadd, 1), (13, .iaload, 1), (14, .aload_n 0, 1), (15, .iload_n 3, 1), (16, .iconst 2, 1), (17, .iadd, 1), (18, .iaload, 1), (19, .aload_n 0, 1), (20, .iload_n 3, 1), (21, .iconst 3, 1), (22, .iadd, 1), (23, .iaload, 1), (24, .aload_n 0, 1), (25, .iload_n 3, 1), (26, .iconst 4, 1), (27, .iadd, 1), (28, .iaload, 1), (29, .aload_n 0, 1), (30, .iload_n 3, 1), (31, .iconst 5, 1), (32, .iadd, 1), (33, .iaload, 1), (34, .invokevirtual 26, 3), (37, .pop, 1), (38, .goto 1372, 3), (41, .aload_n 1, 1), (42, .aload_n 0, 1), (43, .iload_n 3, 1), (44, .iconst 1, 1), (45, .iadd, 1), (46, .iaload, 1), (47, .invokevirtual 27, 3), (50, .pop, 1), (51, .aload_n 2, 1), (52, .aload_n 0, 1), (53, .iload_n 3, 1), (54, .iconst 1, 1), (55, .iadd, 1), (56, .iaload, 1), (57, .invokevirtual 31, 3), (60, .pop, 1), (61, .goto 1349, 3)]
theorem dsaL_law_64_3 : dstL_law_64_3.all (dqs1 ⟨⟨dslL_law_64_3⟩⟩ 320) = true := by decide +kernel
theorem dL_law_320 : decode cL_law 320 = .ok (.iload_n 3, 1) := (show decode cL_law (320 + 0) = .ok (.iload_n 3, 1) from dqs dskL_law_64_3 dsaL_law_64_3 0 rfl)
theorem dL_law_321 : decode cL_law 321 = .ok (.iconst 5, 1) := (show decode cL_law (320 + 1) = .ok (.iconst 5, 1) from dqs dskL_law_64_3 dsaL_law_64_3 1 rfl)
theorem dL_law_322 : decode cL_law 322 = .ok (.iadd, 1) := (show decode cL_law (320 + 2) = .ok (.iadd, 1) from dqs dskL_law_64_3 dsaL_law_64_3 2 rfl)
theorem dL_law_323 : decode cL_law 323 = .ok (.iaload, 1) := (show decode cL_law (320 + 3) = .ok (.iaload, 1) from dqs dskL_law_64_3 dsaL_law_64_3 3 rfl)
theorem dL_law_324 : decode cL_law 324 = .ok (.invokevirtual 23, 3) := (show decode cL_law (320 + 4) = .ok (.invokevirtual 23, 3) from dqs dskL_law_64_3 dsaL_law_64_3 4 rfl)
theorem dL_law_327 : decode cL_law 327 = .ok (.pop, 1) := (show decode cL_law (320 + 7) = .ok (.pop, 1) from dqs dskL_law_64_3 dsaL_law_64_3 5 rfl)
theorem dL_law_328 : decode cL_law 328 = .ok (.aload_n 2, 1) := (show decode cL_law (320 + 8) = .ok (.aload_n 2, 1) from dqs dskL_law_64_3 dsaL_law_64_3 6 rfl)
theorem dL_law_329 : decode cL_law 329 = .ok (.aload_n 0, 1) := (show decode cL_law (320 + 9) = .ok (.aload_n 0, 1) from dqs dskL_law_64_3 dsaL_law_64_3 7 rfl)
theorem dL_law_330 : decode cL_law 330 = .ok (.iload_n 3, 1) := (show decode cL_law (320 + 10) = .ok (.iload_n 3, 1) from dqs dskL_law_64_3 dsaL_law_64_3 8 rfl)
theorem dL_law_331 : decode cL_law 331 = .ok (.iconst 1, 1) := (show decode cL_law (320 + 11) = .ok (.iconst 1, 1) from dqs dskL_law_64_3 dsaL_law_64_3 9 rfl)
theorem dL_law_332 : decode cL_law 332 = .ok (.iadd, 1) := (show decode cL_law (320 + 12) = .ok (.iadd, 1) from dqs dskL_law_64_3 dsaL_law_64_3 10 rfl)
theorem dL_law_333 : decode cL_law 333 = .ok (.iaload, 1) := (show decode cL_law (320 + 13) = .ok (.iaload, 1) from dqs dskL_law_64_3 dsaL_law_64_3 11 rfl)
theorem dL_law_334 : decode cL_law 334 = .ok (.aload_n 0, 1) := (show decode cL_law (320 + 14) = .ok (.aload_n 0, 1) from dqs dskL_law_64_3 dsaL_law_64_3 12 rfl)
theorem dL_law_335 : decode cL_law 335 = .ok (.iload_n 3, 1) := (show decode cL_law (320 + 15) = .ok (.iload_n 3, 1) from dqs dskL_law_64_3 dsaL_law_64_3 13 rfl)
theorem dL_law_336 : decode cL_law 336 = .ok (.iconst 2, 1) := (show decode cL_law (320 + 16) = .ok (.iconst 2, 1) from dqs dskL_law_64_3 dsaL_law_64_3 14 rfl)
theorem dL_law_337 : decode cL_law 337 = .ok (.iadd, 1) := (show decode cL_law (320 + 17) = .ok (.iadd, 1) from dqs dskL_law_64_3 dsaL_law_64_3 15 rfl)
theorem dL_law_338 : decode cL_law 338 = .ok (.iaload, 1) := (show decode cL_law (320 + 18) = .ok (.iaload, 1) from dqs dskL_law_64_3 dsaL_law_64_3 16 rfl)
theorem dL_law_339 : decode cL_law 339 = .ok (.aload_n 0, 1) := (show decode cL_law (320 + 19) = .ok (.aload_n 0, 1) from dqs dskL_law_64_3 dsaL_law_64_3 17 rfl)
theorem dL_law_340 : decode cL_law 340 = .ok (.iload_n 3, 1) := (show decode cL_law (320 + 20) = .ok (.iload_n 3, 1) from dqs dskL_law_64_3 dsaL_law_64_3 18 rfl)
theorem dL_law_341 : decode cL_law 341 = .ok (.iconst 3, 1) := (show decode cL_law (320 + 21) = .ok (.iconst 3, 1) from dqs dskL_law_64_3 dsaL_law_64_3 19 rfl)
theorem dL_law_342 : decode cL_law 342 = .ok (.iadd, 1) := (show decode cL_law (320 + 22) = .ok (.iadd, 1) from dqs dskL_law_64_3 dsaL_law_64_3 20 rfl)
theorem dL_law_343 : decode cL_law 343 = .ok (.iaload, 1) := (show decode cL_law (320 + 23) = .ok (.iaload, 1) from dqs dskL_law_64_3 dsaL_law_64_3 21 rfl)
theorem dL_law_344 : decode cL_law 344 = .ok (.aload_n 0, 1) := (show decode cL_law (320 + 24) = .ok (.aload_n 0, 1) from dqs dskL_law_64_3 dsaL_law_64_3 22 rfl)
theorem dL_law_345 : decode cL_law 345 = .ok (.iload_n 3, 1) := (show decode cL_law (320 + 25) = .ok (.iload_n 3, 1) from dqs dskL_law_64_3 dsaL_law_64_3 23 rfl)
theorem dL_law_346 : decode cL_law 346 = .ok (.iconst 4, 1) := (show decode cL_law (320 + 26) = .ok (.iconst 4, 1) from dqs dskL_law_64_3 dsaL_law_64_3 24 rfl)
theorem dL_law_347 : decode cL_law 347 = .ok (.iadd, 1) := (show decode cL_law (320 + 27) = .ok (.iadd, 1) from dqs dskL_law_64_3 dsaL_law_64_3 25 rfl)
theorem dL_law_348 : decode cL_law 348 = .ok (.iaload, 1) := (show decode cL_law (320 + 28) = .ok (.iaload, 1) from dqs dskL_law_64_3 dsaL_law_64_3 26 rfl)
theorem dL_law_349 : decode cL_law 349 = .ok (.aload_n 0, 1) := (show decode cL_law (320 + 29) = .ok (.aload_n 0, 1) from dqs dskL_law_64_3 dsaL_law_64_3 27 rfl)
theorem dL_law_350 : decode cL_law 350 = .ok (.iload_n 3, 1) := (show decode cL_law (320 + 30) = .ok (.iload_n 3, 1) from dqs dskL_law_64_3 dsaL_law_64_3 28 rfl)
theorem dL_law_351 : decode cL_law 351 = .ok (.iconst 5, 1) := (show decode cL_law (320 + 31) = .ok (.iconst 5, 1) from dqs dskL_law_64_3 dsaL_law_64_3 29 rfl)
theorem dL_law_352 : decode cL_law 352 = .ok (.iadd, 1) := (show decode cL_law (320 + 32) = .ok (.iadd, 1) from dqs dskL_law_64_3 dsaL_law_64_3 30 rfl)
theorem dL_law_353 : decode cL_law 353 = .ok (.iaload, 1) := (show decode cL_law (320 + 33) = .ok (.iaload, 1) from dqs dskL_law_64_3 dsaL_law_64_3 31 rfl)
theorem dL_law_354 : decode cL_law 354 = .ok (.invokevirtual 26, 3) := (show decode cL_law (320 + 34) = .ok (.invokevirtual 26, 3) from dqs dskL_law_64_3 dsaL_law_64_3 32 rfl)
theorem dL_law_357 : decode cL_law 357 = .ok (.pop, 1) := (show decode cL_law (320 + 37) = .ok (.pop, 1) from dqs dskL_law_64_3 dsaL_law_64_3 33 rfl)
theorem dL_law_358 : decode cL_law 358 = .ok (.goto 1372, 3) := (show decode cL_law (320 + 38) = .ok (.goto 1372, 3) from dqs dskL_law_64_3 dsaL_law_64_3 34 rfl)
theorem dL_law_361 : decode cL_law 361 = .ok (.aload_n 1, 1) := (show decode cL_law (320 + 41) = .ok (.aload_n 1, 1) from dqs dskL_law_64_3 dsaL_law_64_3 35 rfl)
theorem dL_law_362 : decode cL_law 362 = .ok (.aload_n 0, 1) := (show decode cL_law (320 + 42) = .ok (.aload_n 0, 1) from dqs dskL_law_64_3 dsaL_law_64_3 36 rfl)
theorem dL_law_363 : decode cL_law 363 = .ok (.iload_n 3, 1) := (show decode cL_law (320 + 43) = .ok (.iload_n 3, 1) from dqs dskL_law_64_3 dsaL_law_64_3 37 rfl)
theorem dL_law_364 : decode cL_law 364 = .ok (.iconst 1, 1) := (show decode cL_law (320 + 44) = .ok (.iconst 1, 1) from dqs dskL_law_64_3 dsaL_law_64_3 38 rfl)
theorem dL_law_365 : decode cL_law 365 = .ok (.iadd, 1) := (show decode cL_law (320 + 45) = .ok (.iadd, 1) from dqs dskL_law_64_3 dsaL_law_64_3 39 rfl)
theorem dL_law_366 : decode cL_law 366 = .ok (.iaload, 1) := (show decode cL_law (320 + 46) = .ok (.iaload, 1) from dqs dskL_law_64_3 dsaL_law_64_3 40 rfl)
theorem dL_law_367 : decode cL_law 367 = .ok (.invokevirtual 27, 3) := (show decode cL_law (320 + 47) = .ok (.invokevirtual 27, 3) from dqs dskL_law_64_3 dsaL_law_64_3 41 rfl)
theorem dL_law_370 : decode cL_law 370 = .ok (.pop, 1) := (show decode cL_law (320 + 50) = .ok (.pop, 1) from dqs dskL_law_64_3 dsaL_law_64_3 42 rfl)
theorem dL_law_371 : decode cL_law 371 = .ok (.aload_n 2, 1) := (show decode cL_law (320 + 51) = .ok (.aload_n 2, 1) from dqs dskL_law_64_3 dsaL_law_64_3 43 rfl)
theorem dL_law_372 : decode cL_law 372 = .ok (.aload_n 0, 1) := (show decode cL_law (320 + 52) = .ok (.aload_n 0, 1) from dqs dskL_law_64_3 dsaL_law_64_3 44 rfl)
theorem dL_law_373 : decode cL_law 373 = .ok (.iload_n 3, 1) := (show decode cL_law (320 + 53) = .ok (.iload_n 3, 1) from dqs dskL_law_64_3 dsaL_law_64_3 45 rfl)
theorem dL_law_374 : decode cL_law 374 = .ok (.iconst 1, 1) := (show decode cL_law (320 + 54) = .ok (.iconst 1, 1) from dqs dskL_law_64_3 dsaL_law_64_3 46 rfl)
theorem dL_law_375 : decode cL_law 375 = .ok (.iadd, 1) := (show decode cL_law (320 + 55) = .ok (.iadd, 1) from dqs dskL_law_64_3 dsaL_law_64_3 47 rfl)
theorem dL_law_376 : decode cL_law 376 = .ok (.iaload, 1) := (show decode cL_law (320 + 56) = .ok (.iaload, 1) from dqs dskL_law_64_3 dsaL_law_64_3 48 rfl)
theorem dL_law_377 : decode cL_law 377 = .ok (.invokevirtual 31, 3) := (show decode cL_law (320 + 57) = .ok (.invokevirtual 31, 3) from dqs dskL_law_64_3 dsaL_law_64_3 49 rfl)
theorem dL_law_380 : decode cL_law 380 = .ok (.pop, 1) := (show decode cL_law (320 + 60) = .ok (.pop, 1) from dqs dskL_law_64_3 dsaL_law_64_3 50 rfl)
theorem dL_law_381 : decode cL_law 381 = .ok (.goto 1349, 3) := (show decode cL_law (320 + 61) = .ok (.goto 1349, 3) from dqs dskL_law_64_3 dsaL_law_64_3 51 rfl)
def dslL_law_64_4 : List UInt8 := [0x2b, 0x2a, 0x1d, 0x04, 0x60, 0x2e, 0xb6, 0x00, 0x20, 0x57, 0x2c, 0x2a, 0x1d, 0x04, 0x60, 0x2e, 0xb6, 0x00, 0x23, 0x57, 0xa7, 0x05, 0x2e, 0x2b, 0x2a, 0x1d, 0x04, 0x60, 0x2e, 0x2a, 0x1d, 0x05, 0x60, 0x2e, 0x2a, 0x1d, 0x06, 0x60, 0x2e, 0x2a, 0x1d, 0x07, 0x60, 0x2e, 0x2a, 0x1d, 0x08, 0x60, 0x2e, 0xb6, 0x00, 0x24, 0x57, 0x2c, 0x2a, 0x1d, 0x04, 0x60, 0x2e, 0x2a, 0x1d, 0x05, 0x60, 0x2e]
theorem dskL_law_64_4 : (cL_law.data.toList.drop 384).take 64 = dslL_law_64_4 := by decide +kernel
def dstL_law_64_4 : List (Nat × Jvm.ClassFile.Instr × Nat) := [(0, .aload_n 1, 1), (1, .aload_n 0, 1), (2, .iload_n 3, 1), (3, .iconst 1, 1), (4, .iadd, 1), (5, .iaload, 1), (6, .invokevirtual 32, 3), (9, .pop, 1), (10, .aload_n 2, 1), (11, .aload_n 0, 1), (12, .iload_n 3, 1), (13, .iconst 1, 1), (14, .iadd, 1), (15, .iaload, 1), (16, .invokevirtual 35, 3), (19, .pop, 1), (20, .goto 1326, 3), (23, .aload_n 1, 1), (24, .aload_n 0, 1), (25, .iload_n 3, 1), (26, .iconst 1, 1), (27, .iadd, 1), (28, .iaload, 1), (29, .aload_n 0, 1), (30, .iload_n 3, 1), (31, .iconst 2, 1), (32, .iadd, 1), (33, .iaload, 1), (34, .aload_n 0, 1), (35, .iload_n 3, 1), (36, .iconst 3, 1), (37, .iadd, 1), (38, .iaload, 1), (39, .aload_n 0, 1), (40, .iload_n 3, 1), (41, .iconst 4, 1), (42, .iadd, 1), (43, .iaload, 1), (44, .aload_n 0, 1), (45, .iload_n 3, 1), (46, .iconst 5, 1), (47, .iadd, 1), (48, .iaload, 1), (49, .invokevirtual 36, 3), (52, .pop, 1), (53, .aload_n 2, 1), (54, .aload_n 0, 1), (55, .iload_n 3, 1), (56, .iconst 1, 1), (57, .iadd, 1), (58, .iaload, 1), (59, .aload_n 0, 1), (60, .iload_n 3, 1), (61, .iconst 2, 1), (62, .iadd, 1), (63, .iaload, 1)]
theorem dsaL_law_64_4 : dstL_law_64_4.all (dqs1 ⟨⟨dslL_law_64_4⟩⟩ 384) = true := by decide +kernel
theorem dL_law_384 : decode cL_law 384 = .ok (.aload_n 1, 1) := (show decode cL_law (384 + 0) = .ok (.aload_n 1, 1) from dqs dskL_law_64_4 dsaL_law_64_4 0 rfl)
theorem dL_law_385 : decode cL_law 385 = .ok (.aload_n 0, 1) := (show decode cL_law (384 + 1) = .ok (.aload_n 0, 1) from dqs dskL_law_64_4 dsaL_law_64_4 1 rfl)
theorem dL_law_386 : decode cL_law 386 = .ok (.iload_n 3, 1) := (show decode cL_law (384 + 2) = .ok (.iload_n 3, 1) from dqs dskL_law_64_4 dsaL_law_64_4 2 rfl)
theorem dL_law_387 : decode cL_law 387 = .ok (.iconst 1, 1) := (show decode cL_law (384 + 3) = .ok (.iconst 1, 1) from dqs dskL_law_64_4 dsaL_law_64_4 3 rfl)
theorem dL_law_388 : decode cL_law 388 = .ok (.iadd, 1) := (show decode cL_law (384 + 4) = .ok (.iadd, 1) from dqs dskL_law_64_4 dsaL_law_64_4 4 rfl)
theorem dL_law_389 : decode cL_law 389 = .ok (.iaload, 1) := (show decode cL_law (384 + 5) = .ok (.iaload, 1) from dqs dskL_law_64_4 dsaL_law_64_4 5 rfl)
theorem dL_law_390 : decode cL_law 390 = .ok (.invokevirtual 32, 3) := (show decode cL_law (384 + 6) = .ok (.invokevirtual 32, 3) from dqs dskL_law_64_4 dsaL_law_64_4 6 rfl)
theorem dL_law_393 : decode cL_law 393 = .ok (.pop, 1) := (show decode cL_law (384 + 9) = .ok (.pop, 1) from dqs dskL_law_64_4 dsaL_law_64_4 7 rfl)
theorem dL_law_394 : decode cL_law 394 = .ok (.aload_n 2, 1) := (show decode cL_law (384 + 10) = .ok (.aload_n 2, 1) from dqs dskL_law_64_4 dsaL_law_64_4 8 rfl)
theorem dL_law_395 : decode cL_law 395 = .ok (.aload_n 0, 1) := (show decode cL_law (384 + 11) = .ok (.aload_n 0, 1) from dqs dskL_law_64_4 dsaL_law_64_4 9 rfl)
theorem dL_law_396 : decode cL_law 396 = .ok (.iload_n 3, 1) := (show decode cL_law (384 + 12) = .ok (.iload_n 3, 1) from dqs dskL_law_64_4 dsaL_law_64_4 10 rfl)
theorem dL_law_397 : decode cL_law 397 = .ok (.iconst 1, 1) := (show decode cL_law (384 + 13) = .ok (.iconst 1, 1) from dqs dskL_law_64_4 dsaL_law_64_4 11 rfl)
theorem dL_law_398 : decode cL_law 398 = .ok (.iadd, 1) := (show decode cL_law (384 + 14) = .ok (.iadd, 1) from dqs dskL_law_64_4 dsaL_law_64_4 12 rfl)
theorem dL_law_399 : decode cL_law 399 = .ok (.iaload, 1) := (show decode cL_law (384 + 15) = .ok (.iaload, 1) from dqs dskL_law_64_4 dsaL_law_64_4 13 rfl)
theorem dL_law_400 : decode cL_law 400 = .ok (.invokevirtual 35, 3) := (show decode cL_law (384 + 16) = .ok (.invokevirtual 35, 3) from dqs dskL_law_64_4 dsaL_law_64_4 14 rfl)
theorem dL_law_403 : decode cL_law 403 = .ok (.pop, 1) := (show decode cL_law (384 + 19) = .ok (.pop, 1) from dqs dskL_law_64_4 dsaL_law_64_4 15 rfl)
theorem dL_law_404 : decode cL_law 404 = .ok (.goto 1326, 3) := (show decode cL_law (384 + 20) = .ok (.goto 1326, 3) from dqs dskL_law_64_4 dsaL_law_64_4 16 rfl)
theorem dL_law_407 : decode cL_law 407 = .ok (.aload_n 1, 1) := (show decode cL_law (384 + 23) = .ok (.aload_n 1, 1) from dqs dskL_law_64_4 dsaL_law_64_4 17 rfl)
theorem dL_law_408 : decode cL_law 408 = .ok (.aload_n 0, 1) := (show decode cL_law (384 + 24) = .ok (.aload_n 0, 1) from dqs dskL_law_64_4 dsaL_law_64_4 18 rfl)
theorem dL_law_409 : decode cL_law 409 = .ok (.iload_n 3, 1) := (show decode cL_law (384 + 25) = .ok (.iload_n 3, 1) from dqs dskL_law_64_4 dsaL_law_64_4 19 rfl)
theorem dL_law_410 : decode cL_law 410 = .ok (.iconst 1, 1) := (show decode cL_law (384 + 26) = .ok (.iconst 1, 1) from dqs dskL_law_64_4 dsaL_law_64_4 20 rfl)
theorem dL_law_411 : decode cL_law 411 = .ok (.iadd, 1) := (show decode cL_law (384 + 27) = .ok (.iadd, 1) from dqs dskL_law_64_4 dsaL_law_64_4 21 rfl)
theorem dL_law_412 : decode cL_law 412 = .ok (.iaload, 1) := (show decode cL_law (384 + 28) = .ok (.iaload, 1) from dqs dskL_law_64_4 dsaL_law_64_4 22 rfl)
theorem dL_law_413 : decode cL_law 413 = .ok (.aload_n 0, 1) := (show decode cL_law (384 + 29) = .ok (.aload_n 0, 1) from dqs dskL_law_64_4 dsaL_law_64_4 23 rfl)
theorem dL_law_414 : decode cL_law 414 = .ok (.iload_n 3, 1) := (show decode cL_law (384 + 30) = .ok (.iload_n 3, 1) from dqs dskL_law_64_4 dsaL_law_64_4 24 rfl)
theorem dL_law_415 : decode cL_law 415 = .ok (.iconst 2, 1) := (show decode cL_law (384 + 31) = .ok (.iconst 2, 1) from dqs dskL_law_64_4 dsaL_law_64_4 25 rfl)
theorem dL_law_416 : decode cL_law 416 = .ok (.iadd, 1) := (show decode cL_law (384 + 32) = .ok (.iadd, 1) from dqs dskL_law_64_4 dsaL_law_64_4 26 rfl)
theorem dL_law_417 : decode cL_law 417 = .ok (.iaload, 1) := (show decode cL_law (384 + 33) = .ok (.iaload, 1) from dqs dskL_law_64_4 dsaL_law_64_4 27 rfl)
theorem dL_law_418 : decode cL_law 418 = .ok (.aload_n 0, 1) := (show decode cL_law (384 + 34) = .ok (.aload_n 0, 1) from dqs dskL_law_64_4 dsaL_law_64_4 28 rfl)
theorem dL_law_419 : decode cL_law 419 = .ok (.iload_n 3, 1) := (show decode cL_law (384 + 35) = .ok (.iload_n 3, 1) from dqs dskL_law_64_4 dsaL_law_64_4 29 rfl)
theorem dL_law_420 : decode cL_law 420 = .ok (.iconst 3, 1) := (show decode cL_law (384 + 36) = .ok (.iconst 3, 1) from dqs dskL_law_64_4 dsaL_law_64_4 30 rfl)
theorem dL_law_421 : decode cL_law 421 = .ok (.iadd, 1) := (show decode cL_law (384 + 37) = .ok (.iadd, 1) from dqs dskL_law_64_4 dsaL_law_64_4 31 rfl)
theorem dL_law_422 : decode cL_law 422 = .ok (.iaload, 1) := (show decode cL_law (384 + 38) = .ok (.iaload, 1) from dqs dskL_law_64_4 dsaL_law_64_4 32 rfl)
theorem dL_law_423 : decode cL_law 423 = .ok (.aload_n 0, 1) := (show decode cL_law (384 + 39) = .ok (.aload_n 0, 1) from dqs dskL_law_64_4 dsaL_law_64_4 33 rfl)
theorem dL_law_424 : decode cL_law 424 = .ok (.iload_n 3, 1) := (show decode cL_law (384 + 40) = .ok (.iload_n 3, 1) from dqs dskL_law_64_4 dsaL_law_64_4 34 rfl)
theorem dL_law_425 : decode cL_law 425 = .ok (.iconst 4, 1) := (show decode cL_law (384 + 41) = .ok (.iconst 4, 1) from dqs dskL_law_64_4 dsaL_law_64_4 35 rfl)
theorem dL_law_426 : decode cL_law 426 = .ok (.iadd, 1) := (show decode cL_law (384 + 42) = .ok (.iadd, 1) from dqs dskL_law_64_4 dsaL_law_64_4 36 rfl)
theorem dL_law_427 : decode cL_law 427 = .ok (.iaload, 1) := (show decode cL_law (384 + 43) = .ok (.iaload, 1) from dqs dskL_law_64_4 dsaL_law_64_4 37 rfl)
theorem dL_law_428 : decode cL_law 428 = .ok (.aload_n 0, 1) := (show decode cL_law (384 + 44) = .ok (.aload_n 0, 1) from dqs dskL_law_64_4 dsaL_law_64_4 38 rfl)
theorem dL_law_429 : decode cL_law 429 = .ok (.iload_n 3, 1) := (show decode cL_law (384 + 45) = .ok (.iload_n 3, 1) from dqs dskL_law_64_4 dsaL_law_64_4 39 rfl)
theorem dL_law_430 : decode cL_law 430 = .ok (.iconst 5, 1) := (show decode cL_law (384 + 46) = .ok (.iconst 5, 1) from dqs dskL_law_64_4 dsaL_law_64_4 40 rfl)
theorem dL_law_431 : decode cL_law 431 = .ok (.iadd, 1) := (show decode cL_law (384 + 47) = .ok (.iadd, 1) from dqs dskL_law_64_4 dsaL_law_64_4 41 rfl)
theorem dL_law_432 : decode cL_law 432 = .ok (.iaload, 1) := (show decode cL_law (384 + 48) = .ok (.iaload, 1) from dqs dskL_law_64_4 dsaL_law_64_4 42 rfl)
theorem dL_law_433 : decode cL_law 433 = .ok (.invokevirtual 36, 3) := (show decode cL_law (384 + 49) = .ok (.invokevirtual 36, 3) from dqs dskL_law_64_4 dsaL_law_64_4 43 rfl)
theorem dL_law_436 : decode cL_law 436 = .ok (.pop, 1) := (show decode cL_law (384 + 52) = .ok (.pop, 1) from dqs dskL_law_64_4 dsaL_law_64_4 44 rfl)
theorem dL_law_437 : decode cL_law 437 = .ok (.aload_n 2, 1) := (show decode cL_law (384 + 53) = .ok (.aload_n 2, 1) from dqs dskL_law_64_4 dsaL_law_64_4 45 rfl)
theorem dL_law_438 : decode cL_law 438 = .ok (.aload_n 0, 1) := (show decode cL_law (384 + 54) = .ok (.aload_n 0, 1) from dqs dskL_law_64_4 dsaL_law_64_4 46 rfl)
theorem dL_law_439 : decode cL_law 439 = .ok (.iload_n 3, 1) := (show decode cL_law (384 + 55) = .ok (.iload_n 3, 1) from dqs dskL_law_64_4 dsaL_law_64_4 47 rfl)
theorem dL_law_440 : decode cL_law 440 = .ok (.iconst 1, 1) := (show decode cL_law (384 + 56) = .ok (.iconst 1, 1) from dqs dskL_law_64_4 dsaL_law_64_4 48 rfl)
theorem dL_law_441 : decode cL_law 441 = .ok (.iadd, 1) := (show decode cL_law (384 + 57) = .ok (.iadd, 1) from dqs dskL_law_64_4 dsaL_law_64_4 49 rfl)
theorem dL_law_442 : decode cL_law 442 = .ok (.iaload, 1) := (show decode cL_law (384 + 58) = .ok (.iaload, 1) from dqs dskL_law_64_4 dsaL_law_64_4 50 rfl)
theorem dL_law_443 : decode cL_law 443 = .ok (.aload_n 0, 1) := (show decode cL_law (384 + 59) = .ok (.aload_n 0, 1) from dqs dskL_law_64_4 dsaL_law_64_4 51 rfl)
theorem dL_law_444 : decode cL_law 444 = .ok (.iload_n 3, 1) := (show decode cL_law (384 + 60) = .ok (.iload_n 3, 1) from dqs dskL_law_64_4 dsaL_law_64_4 52 rfl)
theorem dL_law_445 : decode cL_law 445 = .ok (.iconst 2, 1) := (show decode cL_law (384 + 61) = .ok (.iconst 2, 1) from dqs dskL_law_64_4 dsaL_law_64_4 53 rfl)
theorem dL_law_446 : decode cL_law 446 = .ok (.iadd, 1) := (show decode cL_law (384 + 62) = .ok (.iadd, 1) from dqs dskL_law_64_4 dsaL_law_64_4 54 rfl)
theorem dL_law_447 : decode cL_law 447 = .ok (.iaload, 1) := (show decode cL_law (384 + 63) = .ok (.iaload, 1) from dqs dskL_law_64_4 dsaL_law_64_4 55 rfl)
def dslL_law_64_5 : List UInt8 := [0x2a, 0x1d, 0x06, 0x60, 0x2e, 0x2a, 0x1d, 0x07, 0x60, 0x2e, 0x2a, 0x1d, 0x08, 0x60, 0x2e, 0xb6, 0x00, 0x27, 0x57, 0xa7, 0x04, 0xef, 0x2b, 0x2a, 0x1d, 0x04, 0x60, 0x2e, 0xb6, 0x00, 0x28, 0x57, 0x2c, 0x2a, 0x1d, 0x04, 0x60, 0x2e, 0xb6, 0x00, 0x2b, 0x57, 0xa7, 0x04, 0xd8, 0x2b, 0xb6, 0x00, 0x2c, 0x57, 0x2c, 0xb6, 0x00, 0x30, 0x57, 0xa7, 0x04, 0xcb, 0x2b, 0x2a, 0x1d, 0x04, 0x60, 0x2e]
theorem dskL_law_64_5 : (cL_law.data.toList.drop 448).take 64 = dslL_law_64_5 := by decide +kernel
def dstL_law_64_5 : List (Nat × Jvm.ClassFile.Instr × Nat) := [(0, .aload_n 0, 1), (1, .iload_n 3, 1), (2, .iconst 3, 1), (3, .iadd, 1), (4, .iaload, 1), (5, .aload_n 0, 1), (6, .iload_n 3, 1), (7, .iconst 4, 1), (8, .iadd, 1), (9, .iaload, 1), (10, .aload_n 0, 1), (11, .iload_n 3, 1), (12, .iconst 5, 1), (13, .iadd, 1), (14, .iaload, 1), (15, .invokevirtual 39, 3), (18, .pop, 1), (19, .goto 1263, 3), (22, .aload_n 1, 1), (23, .aload_n 0, 1), (24, .iload_n 3, 1), (25, .iconst 1, 1), (26, .iadd, 1), (27, .iaload, 1), (28, .invokevirtual 40, 3), (31, .pop, 1), (32, .aload_n 2, 1), (33, .aload_n 0, 1), (34, .iload_n 3, 1), (35, .iconst 1, 1), (36, .iadd, 1), (37, .iaload, 1), (38, .invokevirtual 43, 3), (41, .pop, 1), (42, .goto 1240, 3), (45, .aload_n 1, 1), (46, .invokevirtual 44, 3), (49, .pop, 1), (50, .aload_n 2, 1), (51, .invokevirtual 48, 3), (54, .pop, 1), (55, .goto 1227, 3), (58, .aload_n 1, 1), (59, .aload_n 0, 1), (60, .iload_n 3, 1), (61, .iconst 1, 1), (62, .iadd, 1), (63, .iaload, 1)]
theorem dsaL_law_64_5 : dstL_law_64_5.all (dqs1 ⟨⟨dslL_law_64_5⟩⟩ 448) = true := by decide +kernel
theorem dL_law_448 : decode cL_law 448 = .ok (.aload_n 0, 1) := (show decode cL_law (448 + 0) = .ok (.aload_n 0, 1) from dqs dskL_law_64_5 dsaL_law_64_5 0 rfl)
theorem dL_law_449 : decode cL_law 449 = .ok (.iload_n 3, 1) := (show decode cL_law (448 + 1) = .ok (.iload_n 3, 1) from dqs dskL_law_64_5 dsaL_law_64_5 1 rfl)
theorem dL_law_450 : decode cL_law 450 = .ok (.iconst 3, 1) := (show decode cL_law (448 + 2) = .ok (.iconst 3, 1) from dqs dskL_law_64_5 dsaL_law_64_5 2 rfl)
theorem dL_law_451 : decode cL_law 451 = .ok (.iadd, 1) := (show decode cL_law (448 + 3) = .ok (.iadd, 1) from dqs dskL_law_64_5 dsaL_law_64_5 3 rfl)
theorem dL_law_452 : decode cL_law 452 = .ok (.iaload, 1) := (show decode cL_law (448 + 4) = .ok (.iaload, 1) from dqs dskL_law_64_5 dsaL_law_64_5 4 rfl)
theorem dL_law_453 : decode cL_law 453 = .ok (.aload_n 0, 1) := (show decode cL_law (448 + 5) = .ok (.aload_n 0, 1) from dqs dskL_law_64_5 dsaL_law_64_5 5 rfl)
theorem dL_law_454 : decode cL_law 454 = .ok (.iload_n 3, 1) := (show decode cL_law (448 + 6) = .ok (.iload_n 3, 1) from dqs dskL_law_64_5 dsaL_law_64_5 6 rfl)
theorem dL_law_455 : decode cL_law 455 = .ok (.iconst 4, 1) := (show decode cL_law (448 + 7) = .ok (.iconst 4, 1) from dqs dskL_law_64_5 dsaL_law_64_5 7 rfl)
theorem dL_law_456 : decode cL_law 456 = .ok (.iadd, 1) := (show decode cL_law (448 + 8) = .ok (.iadd, 1) from dqs dskL_law_64_5 dsaL_law_64_5 8 rfl)
theorem dL_law_457 : decode cL_law 457 = .ok (.iaload, 1) := (show decode cL_law (448 + 9) = .ok (.iaload, 1) from dqs dskL_law_64_5 dsaL_law_64_5 9 rfl)
theorem dL_law_458 : decode cL_law 458 = .ok (.aload_n 0, 1) := (show decode cL_law (448 + 10) = .ok (.aload_n 0, 1) from dqs dskL_law_64_5 dsaL_law_64_5 10 rfl)
theorem dL_law_459 : decode cL_law 459 = .ok (.iload_n 3, 1) := (show decode cL_law (448 + 11) = .ok (.iload_n 3, 1) from dqs dskL_law_64_5 dsaL_law_64_5 11 rfl)
theorem dL_law_460 : decode cL_law 460 = .ok (.iconst 5, 1) := (show decode cL_law (448 + 12) = .ok (.iconst 5, 1) from dqs dskL_law_64_5 dsaL_law_64_5 12 rfl)
theorem dL_law_461 : decode cL_law 461 = .ok (.iadd, 1) := (show decode cL_law (448 + 13) = .ok (.iadd, 1) from dqs dskL_law_64_5 dsaL_law_64_5 13 rfl)
theorem dL_law_462 : decode cL_law 462 = .ok (.iaload, 1) := (show decode cL_law (448 + 14) = .ok (.iaload, 1) from dqs dskL_law_64_5 dsaL_law_64_5 14 rfl)
theorem dL_law_463 : decode cL_law 463 = .ok (.invokevirtual 39, 3) := (show decode cL_law (448 + 15) = .ok (.invokevirtual 39, 3) from dqs dskL_law_64_5 dsaL_law_64_5 15 rfl)
theorem dL_law_466 : decode cL_law 466 = .ok (.pop, 1) := (show decode cL_law (448 + 18) = .ok (.pop, 1) from dqs dskL_law_64_5 dsaL_law_64_5 16 rfl)
theorem dL_law_467 : decode cL_law 467 = .ok (.goto 1263, 3) := (show decode cL_law (448 + 19) = .ok (.goto 1263, 3) from dqs dskL_law_64_5 dsaL_law_64_5 17 rfl)
theorem dL_law_470 : decode cL_law 470 = .ok (.aload_n 1, 1) := (show decode cL_law (448 + 22) = .ok (.aload_n 1, 1) from dqs dskL_law_64_5 dsaL_law_64_5 18 rfl)
theorem dL_law_471 : decode cL_law 471 = .ok (.aload_n 0, 1) := (show decode cL_law (448 + 23) = .ok (.aload_n 0, 1) from dqs dskL_law_64_5 dsaL_law_64_5 19 rfl)
theorem dL_law_472 : decode cL_law 472 = .ok (.iload_n 3, 1) := (show decode cL_law (448 + 24) = .ok (.iload_n 3, 1) from dqs dskL_law_64_5 dsaL_law_64_5 20 rfl)
theorem dL_law_473 : decode cL_law 473 = .ok (.iconst 1, 1) := (show decode cL_law (448 + 25) = .ok (.iconst 1, 1) from dqs dskL_law_64_5 dsaL_law_64_5 21 rfl)
theorem dL_law_474 : decode cL_law 474 = .ok (.iadd, 1) := (show decode cL_law (448 + 26) = .ok (.iadd, 1) from dqs dskL_law_64_5 dsaL_law_64_5 22 rfl)
theorem dL_law_475 : decode cL_law 475 = .ok (.iaload, 1) := (show decode cL_law (448 + 27) = .ok (.iaload, 1) from dqs dskL_law_64_5 dsaL_law_64_5 23 rfl)
theorem dL_law_476 : decode cL_law 476 = .ok (.invokevirtual 40, 3) := (show decode cL_law (448 + 28) = .ok (.invokevirtual 40, 3) from dqs dskL_law_64_5 dsaL_law_64_5 24 rfl)
theorem dL_law_479 : decode cL_law 479 = .ok (.pop, 1) := (show decode cL_law (448 + 31) = .ok (.pop, 1) from dqs dskL_law_64_5 dsaL_law_64_5 25 rfl)
theorem dL_law_480 : decode cL_law 480 = .ok (.aload_n 2, 1) := (show decode cL_law (448 + 32) = .ok (.aload_n 2, 1) from dqs dskL_law_64_5 dsaL_law_64_5 26 rfl)
theorem dL_law_481 : decode cL_law 481 = .ok (.aload_n 0, 1) := (show decode cL_law (448 + 33) = .ok (.aload_n 0, 1) from dqs dskL_law_64_5 dsaL_law_64_5 27 rfl)
theorem dL_law_482 : decode cL_law 482 = .ok (.iload_n 3, 1) := (show decode cL_law (448 + 34) = .ok (.iload_n 3, 1) from dqs dskL_law_64_5 dsaL_law_64_5 28 rfl)
theorem dL_law_483 : decode cL_law 483 = .ok (.iconst 1, 1) := (show decode cL_law (448 + 35) = .ok (.iconst 1, 1) from dqs dskL_law_64_5 dsaL_law_64_5 29 rfl)
theorem dL_law_484 : decode cL_law 484 = .ok (.iadd, 1) := (show decode cL_law (448 + 36) = .ok (.iadd, 1) from dqs dskL_law_64_5 dsaL_law_64_5 30 rfl)
theorem dL_law_485 : decode cL_law 485 = .ok (.iaload, 1) := (show decode cL_law (448 + 37) = .ok (.iaload, 1) from dqs dskL_law_64_5 dsaL_law_64_5 31 rfl)
theorem dL_law_486 : decode cL_law 486 = .ok (.invokevirtual 43, 3) := (show decode cL_law (448 + 38) = .ok (.invokevirtual 43, 3) from dqs dskL_law_64_5 dsaL_law_64_5 32 rfl)
theorem dL_law_489 : decode cL_law 489 = .ok (.pop, 1) := (show decode cL_law (448 + 41) = .ok (.pop, 1) from dqs dskL_law_64_5 dsaL_law_64_5 33 rfl)
theorem dL_law_490 : decode cL_law 490 = .ok (.goto 1240, 3) := (show decode cL_law (448 + 42) = .ok (.goto 1240, 3) from dqs dskL_law_64_5 dsaL_law_64_5 34 rfl)
theorem dL_law_493 : decode cL_law 493 = .ok (.aload_n 1, 1) := (show decode cL_law (448 + 45) = .ok (.aload_n 1, 1) from dqs dskL_law_64_5 dsaL_law_64_5 35 rfl)
theorem dL_law_494 : decode cL_law 494 = .ok (.invokevirtual 44, 3) := (show decode cL_law (448 + 46) = .ok (.invokevirtual 44, 3) from dqs dskL_law_64_5 dsaL_law_64_5 36 rfl)
theorem dL_law_497 : decode cL_law 497 = .ok (.pop, 1) := (show decode cL_law (448 + 49) = .ok (.pop, 1) from dqs dskL_law_64_5 dsaL_law_64_5 37 rfl)
theorem dL_law_498 : decode cL_law 498 = .ok (.aload_n 2, 1) := (show decode cL_law (448 + 50) = .ok (.aload_n 2, 1) from dqs dskL_law_64_5 dsaL_law_64_5 38 rfl)
theorem dL_law_499 : decode cL_law 499 = .ok (.invokevirtual 48, 3) := (show decode cL_law (448 + 51) = .ok (.invokevirtual 48, 3) from dqs dskL_law_64_5 dsaL_law_64_5 39 rfl)
theorem dL_law_502 : decode cL_law 502 = .ok (.pop, 1) := (show decode cL_law (448 + 54) = .ok (.pop, 1) from dqs dskL_law_64_5 dsaL_law_64_5 40 rfl)
theorem dL_law_503 : decode cL_law 503 = .ok (.goto 1227, 3) := (show decode cL_law (448 + 55) = .ok (.goto 1227, 3) from dqs dskL_law_64_5 dsaL_law_64_5 41 rfl)
theorem dL_law_506 : decode cL_law 506 = .ok (.aload_n 1, 1) := (show decode cL_law (448 + 58) = .ok (.aload_n 1, 1) from dqs dskL_law_64_5 dsaL_law_64_5 42 rfl)
theorem dL_law_507 : decode cL_law 507 = .ok (.aload_n 0, 1) := (show decode cL_law (448 + 59) = .ok (.aload_n 0, 1) from dqs dskL_law_64_5 dsaL_law_64_5 43 rfl)
theorem dL_law_508 : decode cL_law 508 = .ok (.iload_n 3, 1) := (show decode cL_law (448 + 60) = .ok (.iload_n 3, 1) from dqs dskL_law_64_5 dsaL_law_64_5 44 rfl)
theorem dL_law_509 : decode cL_law 509 = .ok (.iconst 1, 1) := (show decode cL_law (448 + 61) = .ok (.iconst 1, 1) from dqs dskL_law_64_5 dsaL_law_64_5 45 rfl)
theorem dL_law_510 : decode cL_law 510 = .ok (.iadd, 1) := (show decode cL_law (448 + 62) = .ok (.iadd, 1) from dqs dskL_law_64_5 dsaL_law_64_5 46 rfl)
theorem dL_law_511 : decode cL_law 511 = .ok (.iaload, 1) := (show decode cL_law (448 + 63) = .ok (.iaload, 1) from dqs dskL_law_64_5 dsaL_law_64_5 47 rfl)
def dslL_law_64_6 : List UInt8 := [0x2a, 0x1d, 0x05, 0x60, 0x2e, 0xb6, 0x00, 0x31, 0x57, 0x2c, 0x2a, 0x1d, 0x04, 0x60, 0x2e, 0x2a, 0x1d, 0x05, 0x60, 0x2e, 0xb6, 0x00, 0x35, 0x57, 0xa7, 0x04, 0xaa, 0x2b, 0x2a, 0x1d, 0x04, 0x60, 0x2e, 0xb6, 0x00, 0x36, 0x57, 0x2c, 0x2a, 0x1d, 0x04, 0x60, 0x2e, 0xb6, 0x00, 0x39, 0x57, 0xa7, 0x04, 0x93, 0x2b, 0x2a, 0x1d, 0x04, 0x60, 0x2e, 0x2a, 0x1d, 0x05, 0x60, 0x2e, 0xb6, 0x00, 0x3a]
theorem dskL_law_64_6 : (cL_law.data.toList.drop 512).take 64 = dslL_law_64_6 := by decide +kernel
def dstL_law_64_6 : List (Nat × Jvm.ClassFile.Instr × Nat) := [(0, .aload_n 0, 1), (1, .iload_n 3, 1), (2, .iconst 2, 1), (3, .iadd, 1), (4, .iaload, 1), (5, .invokevirtual 49, 3), (8, .pop, 1), (9, .aload_n 2, 1), (10, .aload_n 0, 1), (11, .iload_n 3, 1), (12, .iconst 1, 1), (13, .iadd, 1), (14, .iaload, 1), (15, .aload_n 0, 1), (16, .iload_n 3, 1), (17, .iconst 2, 1), (18, .iadd, 1), (19, .iaload, 1), (20, .invokevirtual 53, 3), (23, .pop, 1), (24, .goto 1194, 3), (27, .aload_n 1, 1), (28, .aload_n 0, 1), (29, .iload_n 3, 1), (30, .iconst 1, 1), (31, .iadd, 1), (32, .iaload, 1), (33, .invokevirtual 54, 3), (36, .pop, 1), (37, .aload_n 2, 1), (38, .aload_n 0, 1), (39, .iload_n 3, 1), (40, .iconst 1, 1), (41, .iadd, 1), (42, .iaload, 1), (43, .invokevirtual 57, 3), (46, .pop, 1), (47, .goto 1171, 3), (50, .aload_n 1, 1), (51, .aload_n 0, 1), (52, .iload_n 3, 1), (53, .iconst 1, 1), (54, .iadd, 1), (55, .iaload, 1), (56, .aload_n 0, 1), (57, .iload_n 3, 1), (58, .iconst 2, 1), (59, .iadd, 1), (60, .iaload, 1), (61, .invokevirtual 58, 3)]
theorem dsaL_law_64_6 : dstL_law_64_6.all (dqs1 ⟨⟨dslL_law_64_6⟩⟩ 512) = true := by decide +kernel
theorem dL_law_512 : decode cL_law 512 = .ok (.aload_n 0, 1) := (show decode cL_law (512 + 0) = .ok (.aload_n 0, 1) from dqs dskL_law_64_6 dsaL_law_64_6 0 rfl)
theorem dL_law_513 : decode cL_law 513 = .ok (.iload_n 3, 1) := (show decode cL_law (512 + 1) = .ok (.iload_n 3, 1) from dqs dskL_law_64_6 dsaL_law_64_6 1 rfl)
theorem dL_law_514 : decode cL_law 514 = .ok (.iconst 2, 1) := (show decode cL_law (512 + 2) = .ok (.iconst 2, 1) from dqs dskL_law_64_6 dsaL_law_64_6 2 rfl)
theorem dL_law_515 : decode cL_law 515 = .ok (.iadd, 1) := (show decode cL_law (512 + 3) = .ok (.iadd, 1) from dqs dskL_law_64_6 dsaL_law_64_6 3 rfl)
theorem dL_law_516 : decode cL_law 516 = .ok (.iaload, 1) := (show decode cL_law (512 + 4) = .ok (.iaload, 1) from dqs dskL_law_64_6 dsaL_law_64_6 4 rfl)
theorem dL_law_517 : decode cL_law 517 = .ok (.invokevirtual 49, 3) := (show decode cL_law (512 + 5) = .ok (.invokevirtual 49, 3) from dqs dskL_law_64_6 dsaL_law_64_6 5 rfl)
theorem dL_law_520 : decode cL_law 520 = .ok (.pop, 1) := (show decode cL_law (512 + 8) = .ok (.pop, 1) from dqs dskL_law_64_6 dsaL_law_64_6 6 rfl)
theorem dL_law_521 : decode cL_law 521 = .ok (.aload_n 2, 1) := (show decode cL_law (512 + 9) = .ok (.aload_n 2, 1) from dqs dskL_law_64_6 dsaL_law_64_6 7 rfl)
theorem dL_law_522 : decode cL_law 522 = .ok (.aload_n 0, 1) := (show decode cL_law (512 + 10) = .ok (.aload_n 0, 1) from dqs dskL_law_64_6 dsaL_law_64_6 8 rfl)
theorem dL_law_523 : decode cL_law 523 = .ok (.iload_n 3, 1) := (show decode cL_law (512 + 11) = .ok (.iload_n 3, 1) from dqs dskL_law_64_6 dsaL_law_64_6 9 rfl)
theorem dL_law_524 : decode cL_law 524 = .ok (.iconst 1, 1) := (show decode cL_law (512 + 12) = .ok (.iconst 1, 1) from dqs dskL_law_64_6 dsaL_law_64_6 10 rfl)
theorem dL_law_525 : decode cL_law 525 = .ok (.iadd, 1) := (show decode cL_law (512 + 13) = .ok (.iadd, 1) from dqs dskL_law_64_6 dsaL_law_64_6 11 rfl)
theorem dL_law_526 : decode cL_law 526 = .ok (.iaload, 1) := (show decode cL_law (512 + 14) = .ok (.iaload, 1) from dqs dskL_law_64_6 dsaL_law_64_6 12 rfl)
theorem dL_law_527 : decode cL_law 527 = .ok (.aload_n 0, 1) := (show decode cL_law (512 + 15) = .ok (.aload_n 0, 1) from dqs dskL_law_64_6 dsaL_law_64_6 13 rfl)
theorem dL_law_528 : decode cL_law 528 = .ok (.iload_n 3, 1) := (show decode cL_law (512 + 16) = .ok (.iload_n 3, 1) from dqs dskL_law_64_6 dsaL_law_64_6 14 rfl)
theorem dL_law_529 : decode cL_law 529 = .ok (.iconst 2, 1) := (show decode cL_law (512 + 17) = .ok (.iconst 2, 1) from dqs dskL_law_64_6 dsaL_law_64_6 15 rfl)
theorem dL_law_530 : decode cL_law 530 = .ok (.iadd, 1) := (show decode cL_law (512 + 18) = .ok (.iadd, 1) from dqs dskL_law_64_6 dsaL_law_64_6 16 rfl)
theorem dL_law_531 : decode cL_law 531 = .ok (.iaload, 1) := (show decode cL_law (512 + 19) = .ok (.iaload, 1) from dqs dskL_law_64_6 dsaL_law_64_6 17 rfl)
theorem dL_law_532 : decode cL_law 532 = .ok (.invokevirtual 53, 3) := (show decode cL_law (512 + 20) = .ok (.invokevirtual 53, 3) from dqs dskL_law_64_6 dsaL_law_64_6 18 rfl)
theorem dL_law_535 : decode cL_law 535 = .ok (.pop, 1) := (show decode cL_law (512 + 23) = .ok (.pop, 1) from dqs dskL_law_64_6 dsaL_law_64_6 19 rfl)
theorem dL_law_536 : decode cL_law 536 = .ok (.goto 1194, 3) := (show decode cL_law (512 + 24) = .ok (.goto 1194, 3) from dqs dskL_law_64_6 dsaL_law_64_6 20 rfl)
theorem dL_law_539 : decode cL_law 539 = .ok (.aload_n 1, 1) := (show decode cL_law (512 + 27) = .ok (.aload_n 1, 1) from dqs dskL_law_64_6 dsaL_law_64_6 21 rfl)
theorem dL_law_540 : decode cL_law 540 = .ok (.aload_n 0, 1) := (show decode cL_law (512 + 28) = .ok (.aload_n 0, 1) from dqs dskL_law_64_6 dsaL_law_64_6 22 rfl)
theorem dL_law_541 : decode cL_law 541 = .ok (.iload_n 3, 1) := (show decode cL_law (512 + 29) = .ok (.iload_n 3, 1) from dqs dskL_law_64_6 dsaL_law_64_6 23 rfl)
theorem dL_law_542 : decode cL_law 542 = .ok (.iconst 1, 1) := (show decode cL_law (512 + 30) = .ok (.iconst 1, 1) from dqs dskL_law_64_6 dsaL_law_64_6 24 rfl)
theorem dL_law_543 : decode cL_law 543 = .ok (.iadd, 1) := (show decode cL_law (512 + 31) = .ok (.iadd, 1) from dqs dskL_law_64_6 dsaL_law_64_6 25 rfl)
theorem dL_law_544 : decode cL_law 544 = .ok (.iaload, 1) := (show decode cL_law (512 + 32) = .ok (.iaload, 1) from dqs dskL_law_64_6 dsaL_law_64_6 26 rfl)
theorem dL_law_545 : decode cL_law 545 = .ok (.invokevirtual 54, 3) := (show decode cL_law (512 + 33) = .ok (.invokevirtual 54, 3) from dqs dskL_law_64_6 dsaL_law_64_6 27 rfl)
theorem dL_law_548 : decode cL_law 548 = .ok (.pop, 1) := (show decode cL_law (512 + 36) = .ok (.pop, 1) from dqs dskL_law_64_6 dsaL_law_64_6 28 rfl)
theorem dL_law_549 : decode cL_law 549 = .ok (.aload_n 2, 1) := (show decode cL_law (512 + 37) = .ok (.aload_n 2, 1) from dqs dskL_law_64_6 dsaL_law_64_6 29 rfl)
theorem dL_law_550 : decode cL_law 550 = .ok (.aload_n 0, 1) := (show decode cL_law (512 + 38) = .ok (.aload_n 0, 1) from dqs dskL_law_64_6 dsaL_law_64_6 30 rfl)
theorem dL_law_551 : decode cL_law 551 = .ok (.iload_n 3, 1) := (show decode cL_law (512 + 39) = .ok (.iload_n 3, 1) from dqs dskL_law_64_6 dsaL_law_64_6 31 rfl)
theorem dL_law_552 : decode cL_law 552 = .ok (.iconst 1, 1) := (show decode cL_law (512 + 40) = .ok (.iconst 1, 1) from dqs dskL_law_64_6 dsaL_law_64_6 32 rfl)
theorem dL_law_553 : decode cL_law 553 = .ok (.iadd, 1) := (show decode cL_law (512 + 41) = .ok (.iadd, 1) from dqs dskL_law_64_6 dsaL_law_64_6 33 rfl)
theorem dL_law_554 : decode cL_law 554 = .ok (.iaload, 1) := (show decode cL_law (512 + 42) = .ok (.iaload, 1) from dqs dskL_law_64_6 dsaL_law_64_6 34 rfl)
theorem dL_law_555 : decode cL_law 555 = .ok (.invokevirtual 57, 3) := (show decode cL_law (512 + 43) = .ok (.invokevirtual 57, 3) from dqs dskL_law_64_6 dsaL_law_64_6 35 rfl)
theorem dL_law_558 : decode cL_law 558 = .ok (.pop, 1) := (show decode cL_law (512 + 46) = .ok (.pop, 1) from dqs dskL_law_64_6 dsaL_law_64_6 36 rfl)
theorem dL_law_559 : decode cL_law 559 = .ok (.goto 1171, 3) := (show decode cL_law (512 + 47) = .ok (.goto 1171, 3) from dqs dskL_law_64_6 dsaL_law_64_6 37 rfl)
theorem dL_law_562 : decode cL_law 562 = .ok (.aload_n 1, 1) := (show decode cL_law (512 + 50) = .ok (.aload_n 1, 1) from dqs dskL_law_64_6 dsaL_law_64_6 38 rfl)
theorem dL_law_563 : decode cL_law 563 = .ok (.aload_n 0, 1) := (show decode cL_law (512 + 51) = .ok (.aload_n 0, 1) from dqs dskL_law_64_6 dsaL_law_64_6 39 rfl)
theorem dL_law_564 : decode cL_law 564 = .ok (.iload_n 3, 1) := (show decode cL_law (512 + 52) = .ok (.iload_n 3, 1) from dqs dskL_law_64_6 dsaL_law_64_6 40 rfl)
theorem dL_law_565 : decode cL_law 565 = .ok (.iconst 1, 1) := (show decode cL_law (512 + 53) = .ok (.iconst 1, 1) from dqs dskL_law_64_6 dsaL_law_64_6 41 rfl)
theorem dL_law_566 : decode cL_law 566 = .ok (.iadd, 1) := (show decode cL_law (512 + 54) = .ok (.iadd, 1) from dqs dskL_law_64_6 dsaL_law_64_6 42 rfl)
theorem dL_law_567 : decode cL_law 567 = .ok (.iaload, 1) := (show decode cL_law (512 + 55) = .ok (.iaload, 1) from dqs dskL_law_64_6 dsaL_law_64_6 43 rfl)
theorem dL_law_568 : decode cL_law 568 = .ok (.aload_n 0, 1) := (show decode cL_law (512 + 56) = .ok (.aload_n 0, 1) from dqs dskL_law_64_6 dsaL_law_64_6 44 rfl)
theorem dL_law_569 : decode cL_law 569 = .ok (.iload_n 3, 1) := (show decode cL_law (512 + 57) = .ok (.iload_n 3, 1) from dqs dskL_law_64_6 dsaL_law_64_6 45 rfl)
theorem dL_law_570 : decode cL_law 570 = .ok (.iconst 2, 1) := (show decode cL_law (512 + 58) = .ok (.iconst 2, 1) from dqs dskL_law_64_6 dsaL_law_64_6 46 rfl)
theorem dL_law_571 : decode cL_law 571 = .ok (.iadd, 1) := (show decode cL_law (512 + 59) = .ok (.iadd, 1) from dqs dskL_law_64_6 dsaL_law_64_6 47 rfl)
theorem dL_law_572 : decode cL_law 572 = .ok (.iaload, 1) := (show decode cL_law (512 + 60) = .ok (.iaload, 1) from dqs dskL_law_64_6 dsaL_law_64_6 48 rfl)
theorem dL_law_573 : decode cL_law 573 = .ok (.invokevirtual 58, 3) := (show decode cL_law (512 + 61) = .ok (.invokevirtual 58, 3) from dqs dskL_law_64_6 dsaL_law_64_6 49 rfl)
def dslL_law_64_7 : List UInt8 := [0x57, 0x2c, 0x2a, 0x1d, 0x04, 0x60, 0x2e, 0x2a, 0x1d, 0x05, 0x60, 0x2e, 0xb6, 0x00, 0x3d, 0x57, 0xa7, 0x04, 0x72, 0x2b, 0x2a, 0x1d, 0x04, 0x60, 0x2e, 0x2a, 0x1d, 0x05, 0x60, 0x2e, 0xb6, 0x00, 0x3e, 0x2c, 0x2a, 0x1d, 0x04, 0x60, 0x2e, 0x2a, 0x1d, 0x05, 0x60, 0x2e, 0xb6, 0x00, 0x42, 0x9f, 0x04, 0x53, 0x03, 0xac, 0x2b, 0x2a, 0x1d, 0x04, 0x60, 0x2e, 0x2a, 0x1d, 0x05, 0x60, 0x2e]
theorem dskL_law_64_7 : (cL_law.data.toList.drop 576).take 63 = dslL_law_64_7 := by decide +kernel
def dstL_law_64_7 : List (Nat × Jvm.ClassFile.Instr × Nat) := [(0, .pop, 1), (1, .aload_n 2, 1), (2, .aload_n 0, 1), (3, .iload_n 3, 1), (4, .iconst 1, 1), (5, .iadd, 1), (6, .iaload, 1), (7, .aload_n 0, 1), (8, .iload_n 3, 1), (9, .iconst 2, 1), (10, .iadd, 1), (11, .iaload, 1), (12, .invokevirtual 61, 3), (15, .pop, 1), (16, .goto 1138, 3), (19, .aload_n 1, 1), (20, .aload_n 0, 1), (21, .iload_n 3, 1), (22, .iconst 1, 1), (23, .iadd, 1), (24, .iaload, 1), (25, .aload_n 0, 1), (26, .iload_n 3, 1), (27, .iconst 2, 1), (28, .iadd, 1), (29, .iaload, 1), (30, .invokevirtual 62, 3), (33, .aload_n 2, 1), (34, .aload_n 0, 1), (35, .iload_n 3, 1), (36, .iconst 1, 1), (37, .iadd, 1), (38, .iaload, 1), (39, .aload_n 0, 1), (40, .iload_n 3, 1), (41, .iconst 2, 1), (42, .iadd, 1), (43, .iaload, 1), (44, .invokevirtual 66, 3), (52, .aload_n 1, 1), (53, .aload_n 0, 1), (54, .iload_n 3, 1), (55, .iconst 1, 1), (56, .iadd, 1), (57, .iaload, 1), (58, .aload_n 0, 1), (59, .iload_n 3, 1), (60, .iconst 2, 1), (61, .iadd, 1), (62, .iaload, 1)]
theorem dsaL_law_64_7 : dstL_law_64_7.all (dqs1 ⟨⟨dslL_law_64_7⟩⟩ 576) = true := by decide +kernel
theorem dL_law_576 : decode cL_law 576 = .ok (.pop, 1) := (show decode cL_law (576 + 0) = .ok (.pop, 1) from dqs dskL_law_64_7 dsaL_law_64_7 0 rfl)
theorem dL_law_577 : decode cL_law 577 = .ok (.aload_n 2, 1) := (show decode cL_law (576 + 1) = .ok (.aload_n 2, 1) from dqs dskL_law_64_7 dsaL_law_64_7 1 rfl)
theorem dL_law_578 : decode cL_law 578 = .ok (.aload_n 0, 1) := (show decode cL_law (576 + 2) = .ok (.aload_n 0, 1) from dqs dskL_law_64_7 dsaL_law_64_7 2 rfl)
theorem dL_law_579 : decode cL_law 579 = .ok (.iload_n 3, 1) := (show decode cL_law (576 + 3) = .ok (.iload_n 3, 1) from dqs dskL_law_64_7 dsaL_law_64_7 3 rfl)
theorem dL_law_580 : decode cL_law 580 = .ok (.iconst 1, 1) := (show decode cL_law (576 + 4) = .ok (.iconst 1, 1) from dqs dskL_law_64_7 dsaL_law_64_7 4 rfl)
theorem dL_law_581 : decode cL_law 581 = .ok (.iadd, 1) := (show decode cL_law (576 + 5) = .ok (.iadd, 1) from dqs dskL_law_64_7 dsaL_law_64_7 5 rfl)
theorem dL_law_582 : decode cL_law 582 = .ok (.iaload, 1) := (show decode cL_law (576 + 6) = .ok (.iaload, 1) from dqs dskL_law_64_7 dsaL_law_64_7 6 rfl)
theorem dL_law_583 : decode cL_law 583 = .ok (.aload_n 0, 1) := (show decode cL_law (576 + 7) = .ok (.aload_n 0, 1) from dqs dskL_law_64_7 dsaL_law_64_7 7 rfl)
theorem dL_law_584 : decode cL_law 584 = .ok (.iload_n 3, 1) := (show decode cL_law (576 + 8) = .ok (.iload_n 3, 1) from dqs dskL_law_64_7 dsaL_law_64_7 8 rfl)
theorem dL_law_585 : decode cL_law 585 = .ok (.iconst 2, 1) := (show decode cL_law (576 + 9) = .ok (.iconst 2, 1) from dqs dskL_law_64_7 dsaL_law_64_7 9 rfl)
theorem dL_law_586 : decode cL_law 586 = .ok (.iadd, 1) := (show decode cL_law (576 + 10) = .ok (.iadd, 1) from dqs dskL_law_64_7 dsaL_law_64_7 10 rfl)
theorem dL_law_587 : decode cL_law 587 = .ok (.iaload, 1) := (show decode cL_law (576 + 11) = .ok (.iaload, 1) from dqs dskL_law_64_7 dsaL_law_64_7 11 rfl)
theorem dL_law_588 : decode cL_law 588 = .ok (.invokevirtual 61, 3) := (show decode cL_law (576 + 12) = .ok (.invokevirtual 61, 3) from dqs dskL_law_64_7 dsaL_law_64_7 12 rfl)
theorem dL_law_591 : decode cL_law 591 = .ok (.pop, 1) := (show decode cL_law (576 + 15) = .ok (.pop, 1) from dqs dskL_law_64_7 dsaL_law_64_7 13 rfl)
theorem dL_law_592 : decode cL_law 592 = .ok (.goto 1138, 3) := (show decode cL_law (576 + 16) = .ok (.goto 1138, 3) from dqs dskL_law_64_7 dsaL_law_64_7 14 rfl)
theorem dL_law_595 : decode cL_law 595 = .ok (.aload_n 1, 1) := (show decode cL_law (576 + 19) = .ok (.aload_n 1, 1) from dqs dskL_law_64_7 dsaL_law_64_7 15 rfl)
theorem dL_law_596 : decode cL_law 596 = .ok (.aload_n 0, 1) := (show decode cL_law (576 + 20) = .ok (.aload_n 0, 1) from dqs dskL_law_64_7 dsaL_law_64_7 16 rfl)
theorem dL_law_597 : decode cL_law 597 = .ok (.iload_n 3, 1) := (show decode cL_law (576 + 21) = .ok (.iload_n 3, 1) from dqs dskL_law_64_7 dsaL_law_64_7 17 rfl)
theorem dL_law_598 : decode cL_law 598 = .ok (.iconst 1, 1) := (show decode cL_law (576 + 22) = .ok (.iconst 1, 1) from dqs dskL_law_64_7 dsaL_law_64_7 18 rfl)
theorem dL_law_599 : decode cL_law 599 = .ok (.iadd, 1) := (show decode cL_law (576 + 23) = .ok (.iadd, 1) from dqs dskL_law_64_7 dsaL_law_64_7 19 rfl)
theorem dL_law_600 : decode cL_law 600 = .ok (.iaload, 1) := (show decode cL_law (576 + 24) = .ok (.iaload, 1) from dqs dskL_law_64_7 dsaL_law_64_7 20 rfl)
theorem dL_law_601 : decode cL_law 601 = .ok (.aload_n 0, 1) := (show decode cL_law (576 + 25) = .ok (.aload_n 0, 1) from dqs dskL_law_64_7 dsaL_law_64_7 21 rfl)
theorem dL_law_602 : decode cL_law 602 = .ok (.iload_n 3, 1) := (show decode cL_law (576 + 26) = .ok (.iload_n 3, 1) from dqs dskL_law_64_7 dsaL_law_64_7 22 rfl)
theorem dL_law_603 : decode cL_law 603 = .ok (.iconst 2, 1) := (show decode cL_law (576 + 27) = .ok (.iconst 2, 1) from dqs dskL_law_64_7 dsaL_law_64_7 23 rfl)
theorem dL_law_604 : decode cL_law 604 = .ok (.iadd, 1) := (show decode cL_law (576 + 28) = .ok (.iadd, 1) from dqs dskL_law_64_7 dsaL_law_64_7 24 rfl)
theorem dL_law_605 : decode cL_law 605 = .ok (.iaload, 1) := (show decode cL_law (576 + 29) = .ok (.iaload, 1) from dqs dskL_law_64_7 dsaL_law_64_7 25 rfl)
theorem dL_law_606 : decode cL_law 606 = .ok (.invokevirtual 62, 3) := (show decode cL_law (576 + 30) = .ok (.invokevirtual 62, 3) from dqs dskL_law_64_7 dsaL_law_64_7 26 rfl)
theorem dL_law_609 : decode cL_law 609 = .ok (.aload_n 2, 1) := (show decode cL_law (576 + 33) = .ok (.aload_n 2, 1) from dqs dskL_law_64_7 dsaL_law_64_7 27 rfl)
theorem dL_law_610 : decode cL_law 610 = .ok (.aload_n 0, 1) := (show decode cL_law (576 + 34) = .ok (.aload_n 0, 1) from dqs dskL_law_64_7 dsaL_law_64_7 28 rfl)
theorem dL_law_611 : decode cL_law 611 = .ok (.iload_n 3, 1) := (show decode cL_law (576 + 35) = .ok (.iload_n 3, 1) from dqs dskL_law_64_7 dsaL_law_64_7 29 rfl)
theorem dL_law_612 : decode cL_law 612 = .ok (.iconst 1, 1) := (show decode cL_law (576 + 36) = .ok (.iconst 1, 1) from dqs dskL_law_64_7 dsaL_law_64_7 30 rfl)
theorem dL_law_613 : decode cL_law 613 = .ok (.iadd, 1) := (show decode cL_law (576 + 37) = .ok (.iadd, 1) from dqs dskL_law_64_7 dsaL_law_64_7 31 rfl)
theorem dL_law_614 : decode cL_law 614 = .ok (.iaload, 1) := (show decode cL_law (576 + 38) = .ok (.iaload, 1) from dqs dskL_law_64_7 dsaL_law_64_7 32 rfl)
theorem dL_law_615 : decode cL_law 615 = .ok (.aload_n 0, 1) := (show decode cL_law (576 + 39) = .ok (.aload_n 0, 1) from dqs dskL_law_64_7 dsaL_law_64_7 33 rfl)
theorem dL_law_616 : decode cL_law 616 = .ok (.iload_n 3, 1) := (show decode cL_law (576 + 40) = .ok (.iload_n 3, 1) from dqs dskL_law_64_7 dsaL_law_64_7 34 rfl)
theorem dL_law_617 : decode cL_law 617 = .ok (.iconst 2, 1) := (show decode cL_law (576 + 41) = .ok (.iconst 2, 1) from dqs dskL_law_64_7 dsaL_law_64_7 35 rfl)
theorem dL_law_618 : decode cL_law 618 = .ok (.iadd, 1) := (show decode cL_law (576 + 42) = .ok (.iadd, 1) from dqs dskL_law_64_7 dsaL_law_64_7 36 rfl)
theorem dL_law_619 : decode cL_law 619 = .ok (.iaload, 1) := (show decode cL_law (576 + 43) = .ok (.iaload, 1) from dqs dskL_law_64_7 dsaL_law_64_7 37 rfl)
theorem dL_law_620 : decode cL_law 620 = .ok (.invokevirtual 66, 3) := (show decode cL_law (576 + 44) = .ok (.invokevirtual 66, 3) from dqs dskL_law_64_7 dsaL_law_64_7 38 rfl)
theorem dL_law_628 : decode cL_law 628 = .ok (.aload_n 1, 1) := (show decode cL_law (576 + 52) = .ok (.aload_n 1, 1) from dqs dskL_law_64_7 dsaL_law_64_7 39 rfl)
theorem dL_law_629 : decode cL_law 629 = .ok (.aload_n 0, 1) := (show decode cL_law (576 + 53) = .ok (.aload_n 0, 1) from dqs dskL_law_64_7 dsaL_law_64_7 40 rfl)
theorem dL_law_630 : decode cL_law 630 = .ok (.iload_n 3, 1) := (show decode cL_law (576 + 54) = .ok (.iload_n 3, 1) from dqs dskL_law_64_7 dsaL_law_64_7 41 rfl)
theorem dL_law_631 : decode cL_law 631 = .ok (.iconst 1, 1) := (show decode cL_law (576 + 55) = .ok (.iconst 1, 1) from dqs dskL_law_64_7 dsaL_law_64_7 42 rfl)
theorem dL_law_632 : decode cL_law 632 = .ok (.iadd, 1) := (show decode cL_law (576 + 56) = .ok (.iadd, 1) from dqs dskL_law_64_7 dsaL_law_64_7 43 rfl)
theorem dL_law_633 : decode cL_law 633 = .ok (.iaload, 1) := (show decode cL_law (576 + 57) = .ok (.iaload, 1) from dqs dskL_law_64_7 dsaL_law_64_7 44 rfl)
theorem dL_law_634 : decode cL_law 634 = .ok (.aload_n 0, 1) := (show decode cL_law (576 + 58) = .ok (.aload_n 0, 1) from dqs dskL_law_64_7 dsaL_law_64_7 45 rfl)
theorem dL_law_635 : decode cL_law 635 = .ok (.iload_n 3, 1) := (show decode cL_law (576 + 59) = .ok (.iload_n 3, 1) from dqs dskL_law_64_7 dsaL_law_64_7 46 rfl)
theorem dL_law_636 : decode cL_law 636 = .ok (.iconst 2, 1) := (show decode cL_law (576 + 60) = .ok (.iconst 2, 1) from dqs dskL_law_64_7 dsaL_law_64_7 47 rfl)
theorem dL_law_637 : decode cL_law 637 = .ok (.iadd, 1) := (show decode cL_law (576 + 61) = .ok (.iadd, 1) from dqs dskL_law_64_7 dsaL_law_64_7 48 rfl)
theorem dL_law_638 : decode cL_law 638 = .ok (.iaload, 1) := (show decode cL_law (576 + 62) = .ok (.iaload, 1) from dqs dskL_law_64_7 dsaL_law_64_7 49 rfl)
def dslL_law_64_8 : List UInt8 := [0xb6, 0x00, 0x43, 0x57, 0x2c, 0x2a, 0x1d, 0x04, 0x60, 0x2e, 0x2a, 0x1d, 0x05, 0x60, 0x2e, 0xb6, 0x00, 0x46, 0x57, 0xa7, 0x04, 0x30, 0x2b, 0x2a, 0x1d, 0x04, 0x60, 0x2e, 0x2a, 0x1d, 0x05, 0x60, 0x2e, 0xb6, 0x00, 0x47, 0x57, 0x2c, 0x2a, 0x1d, 0x04, 0x60, 0x2e, 0x2a, 0x1d, 0x05, 0x60, 0x2e, 0xb6, 0x00, 0x4a, 0x57, 0xa7, 0x04, 0x0f, 0x2b, 0x2a, 0x1d, 0x04, 0x60, 0x2e, 0x2a, 0x1d, 0x05]
theorem dskL_law_64_8 : (cL_law.data.toList.drop 639).take 64 = dslL_law_64_8 := by decide +kernel
def dstL_law_64_8 : List (Nat × Jvm.ClassFile.Instr × Nat) := [(0, .invokevirtual 67, 3), (3, .pop, 1), (4, .aload_n 2, 1), (5, .aload_n 0, 1), (6, .iload_n 3, 1), (7, .iconst 1, 1), (8, .iadd, 1), (9, .iaload, 1), (10, .aload_n 0, 1), (11, .iload_n 3, 1), (12, .iconst 2, 1), (13, .iadd, 1), (14, .iaload, 1), (15, .invokevirtual 70, 3), (18, .pop, 1), (19, .goto 1072, 3), (22, .aload_n 1, 1), (23, .aload_n 0, 1), (24, .iload_n 3, 1), (25, .iconst 1, 1), (26, .iadd, 1), (27, .iaload, 1), (28, .aload_n 0, 1), (29, .iload_n 3, 1), (30, .iconst 2, 1), (31, .iadd, 1), (32, .iaload, 1), (33, .invokevirtual 71, 3), (36, .pop, 1), (37, .aload_n 2, 1), (38, .aload_n 0, 1), (39, .iload_n 3, 1), (40, .iconst 1, 1), (41, .iadd, 1), (42, .iaload, 1), (43, .aload_n 0, 1), (44, .iload_n 3, 1), (45, .iconst 2, 1), (46, .iadd, 1), (47, .iaload, 1), (48, .invokevirtual 74, 3), (51, .pop, 1), (52, .goto 1039, 3), (55, .aload_n 1, 1), (56, .aload_n 0, 1), (57, .iload_n 3, 1), (58, .iconst 1, 1), (59, .iadd, 1), (60, .iaload, 1), (61, .aload_n 0, 1), (62, .iload_n 3, 1), (63, .iconst 2, 1)]
theorem dsaL_law_64_8 : dstL_law_64_8.all (dqs1 ⟨⟨dslL_law_64_8⟩⟩ 639) = true := by decide +kernel
theorem dL_law_639 : decode cL_law 639 = .ok (.invokevirtual 67, 3) := (show decode cL_law (639 + 0) = .ok (.invokevirtual 67, 3) from dqs dskL_law_64_8 dsaL_law_64_8 0 rfl)
theorem dL_law_642 : decode cL_law 642 = .ok (.pop, 1) := (show decode cL_law (639 + 3) = .ok (.pop, 1) from dqs dskL_law_64_8 dsaL_law_64_8 1 rfl)
theorem dL_law_643 : decode cL_law 643 = .ok (.aload_n 2, 1) := (show decode cL_law (639 + 4) = .ok (.aload_n 2, 1) from dqs dskL_law_64_8 dsaL_law_64_8 2 rfl)
theorem dL_law_644 : decode cL_law 644 = .ok (.aload_n 0, 1) := (show decode cL_law (639 + 5) = .ok (.aload_n 0, 1) from dqs dskL_law_64_8 dsaL_law_64_8 3 rfl)
theorem dL_law_645 : decode cL_law 645 = .ok (.iload_n 3, 1) := (show decode cL_law (639 + 6) = .ok (.iload_n 3, 1) from dqs dskL_law_64_8 dsaL_law_64_8 4 rfl)
theorem dL_law_646 : decode cL_law 646 = .ok (.iconst 1, 1) := (show decode cL_law (639 + 7) = .ok (.iconst 1, 1) from dqs dskL_law_64_8 dsaL_law_64_8 5 rfl)
theorem dL_law_647 : decode cL_law 647 = .ok (.iadd, 1) := (show decode cL_law (639 + 8) = .ok (.iadd, 1) from dqs dskL_law_64_8 dsaL_law_64_8 6 rfl)
theorem dL_law_648 : decode cL_law 648 = .ok (.iaload, 1) := (show decode cL_law (639 + 9) = .ok (.iaload, 1) from dqs dskL_law_64_8 dsaL_law_64_8 7 rfl)
theorem dL_law_649 : decode cL_law 649 = .ok (.aload_n 0, 1) := (show decode cL_law (639 + 10) = .ok (.aload_n 0, 1) from dqs dskL_law_64_8 dsaL_law_64_8 8 rfl)
theorem dL_law_650 : decode cL_law 650 = .ok (.iload_n 3, 1) := (show decode cL_law (639 + 11) = .ok (.iload_n 3, 1) from dqs dskL_law_64_8 dsaL_law_64_8 9 rfl)
theorem dL_law_651 : decode cL_law 651 = .ok (.iconst 2, 1) := (show decode cL_law (639 + 12) = .ok (.iconst 2, 1) from dqs dskL_law_64_8 dsaL_law_64_8 10 rfl)
theorem dL_law_652 : decode cL_law 652 = .ok (.iadd, 1) := (show decode cL_law (639 + 13) = .ok (.iadd, 1) from dqs dskL_law_64_8 dsaL_law_64_8 11 rfl)
theorem dL_law_653 : decode cL_law 653 = .ok (.iaload, 1) := (show decode cL_law (639 + 14) = .ok (.iaload, 1) from dqs dskL_law_64_8 dsaL_law_64_8 12 rfl)
theorem dL_law_654 : decode cL_law 654 = .ok (.invokevirtual 70, 3) := (show decode cL_law (639 + 15) = .ok (.invokevirtual 70, 3) from dqs dskL_law_64_8 dsaL_law_64_8 13 rfl)
theorem dL_law_657 : decode cL_law 657 = .ok (.pop, 1) := (show decode cL_law (639 + 18) = .ok (.pop, 1) from dqs dskL_law_64_8 dsaL_law_64_8 14 rfl)
theorem dL_law_658 : decode cL_law 658 = .ok (.goto 1072, 3) := (show decode cL_law (639 + 19) = .ok (.goto 1072, 3) from dqs dskL_law_64_8 dsaL_law_64_8 15 rfl)
theorem dL_law_661 : decode cL_law 661 = .ok (.aload_n 1, 1) := (show decode cL_law (639 + 22) = .ok (.aload_n 1, 1) from dqs dskL_law_64_8 dsaL_law_64_8 16 rfl)
theorem dL_law_662 : decode cL_law 662 = .ok (.aload_n 0, 1) := (show decode cL_law (639 + 23) = .ok (.aload_n 0, 1) from dqs dskL_law_64_8 dsaL_law_64_8 17 rfl)
theorem dL_law_663 : decode cL_law 663 = .ok (.iload_n 3, 1) := (show decode cL_law (639 + 24) = .ok (.iload_n 3, 1) from dqs dskL_law_64_8 dsaL_law_64_8 18 rfl)
theorem dL_law_664 : decode cL_law 664 = .ok (.iconst 1, 1) := (show decode cL_law (639 + 25) = .ok (.iconst 1, 1) from dqs dskL_law_64_8 dsaL_law_64_8 19 rfl)
theorem dL_law_665 : decode cL_law 665 = .ok (.iadd, 1) := (show decode cL_law (639 + 26) = .ok (.iadd, 1) from dqs dskL_law_64_8 dsaL_law_64_8 20 rfl)
theorem dL_law_666 : decode cL_law 666 = .ok (.iaload, 1) := (show decode cL_law (639 + 27) = .ok (.iaload, 1) from dqs dskL_law_64_8 dsaL_law_64_8 21 rfl)
theorem dL_law_667 : decode cL_law 667 = .ok (.aload_n 0, 1) := (show decode cL_law (639 + 28) = .ok (.aload_n 0, 1) from dqs dskL_law_64_8 dsaL_law_64_8 22 rfl)
theorem dL_law_668 : decode cL_law 668 = .ok (.iload_n 3, 1) := (show decode cL_law (639 + 29) = .ok (.iload_n 3, 1) from dqs dskL_law_64_8 dsaL_law_64_8 23 rfl)
theorem dL_law_669 : decode cL_law 669 = .ok (.iconst 2, 1) := (show decode cL_law (639 + 30) = .ok (.iconst 2, 1) from dqs dskL_law_64_8 dsaL_law_64_8 24 rfl)
theorem dL_law_670 : decode cL_law 670 = .ok (.iadd, 1) := (show decode cL_law (639 + 31) = .ok (.iadd, 1) from dqs dskL_law_64_8 dsaL_law_64_8 25 rfl)
theorem dL_law_671 : decode cL_law 671 = .ok (.iaload, 1) := (show decode cL_law (639 + 32) = .ok (.iaload, 1) from dqs dskL_law_64_8 dsaL_law_64_8 26 rfl)
theorem dL_law_672 : decode cL_law 672 = .ok (.invokevirtual 71, 3) := (show decode cL_law (639 + 33) = .ok (.invokevirtual 71, 3) from dqs dskL_law_64_8 dsaL_law_64_8 27 rfl)
theorem dL_law_675 : decode cL_law 675 = .ok (.pop, 1) := (show decode cL_law (639 + 36) = .ok (.pop, 1) from dqs dskL_law_64_8 dsaL_law_64_8 28 rfl)
theorem dL_law_676 : decode cL_law 676 = .ok (.aload_n 2, 1) := (show decode cL_law (639 + 37) = .ok (.aload_n 2, 1) from dqs dskL_law_64_8 dsaL_law_64_8 29 rfl)
theorem dL_law_677 : decode cL_law 677 = .ok (.aload_n 0, 1) := (show decode cL_law (639 + 38) = .ok (.aload_n 0, 1) from dqs dskL_law_64_8 dsaL_law_64_8 30 rfl)
theorem dL_law_678 : decode cL_law 678 = .ok (.iload_n 3, 1) := (show decode cL_law (639 + 39) = .ok (.iload_n 3, 1) from dqs dskL_law_64_8 dsaL_law_64_8 31 rfl)
theorem dL_law_679 : decode cL_law 679 = .ok (.iconst 1, 1) := (show decode cL_law (639 + 40) = .ok (.iconst 1, 1) from dqs dskL_law_64_8 dsaL_law_64_8 32 rfl)
theorem dL_law_680 : decode cL_law 680 = .ok (.iadd, 1) := (show decode cL_law (639 + 41) = .ok (.iadd, 1) from dqs dskL_law_64_8 dsaL_law_64_8 33 rfl)
theorem dL_law_681 : decode cL_law 681 = .ok (.iaload, 1) := (show decode cL_law (639 + 42) = .ok (.iaload, 1) from dqs dskL_law_64_8 dsaL_law_64_8 34 rfl)
theorem dL_law_682 : decode cL_law 682 = .ok (.aload_n 0, 1) := (show decode cL_law (639 + 43) = .ok (.aload_n 0, 1) from dqs dskL_law_64_8 dsaL_law_64_8 35 rfl)
theorem dL_law_683 : decode cL_law 683 = .ok (.iload_n 3, 1) := (show decode cL_law (639 + 44) = .ok (.iload_n 3, 1) from dqs dskL_law_64_8 dsaL_law_64_8 36 rfl)
theorem dL_law_684 : decode cL_law 684 = .ok (.iconst 2, 1) := (show decode cL_law (639 + 45) = .ok (.iconst 2, 1) from dqs dskL_law_64_8 dsaL_law_64_8 37 rfl)
theorem dL_law_685 : decode cL_law 685 = .ok (.iadd, 1) := (show decode cL_law (639 + 46) = .ok (.iadd, 1) from dqs dskL_law_64_8 dsaL_law_64_8 38 rfl)
theorem dL_law_686 : decode cL_law 686 = .ok (.iaload, 1) := (show decode cL_law (639 + 47) = .ok (.iaload, 1) from dqs dskL_law_64_8 dsaL_law_64_8 39 rfl)
theorem dL_law_687 : decode cL_law 687 = .ok (.invokevirtual 74, 3) := (show decode cL_law (639 + 48) = .ok (.invokevirtual 74, 3) from dqs dskL_law_64_8 dsaL_law_64_8 40 rfl)
theorem dL_law_690 : decode cL_law 690 = .ok (.pop, 1) := (show decode cL_law (639 + 51) = .ok (.pop, 1) from dqs dskL_law_64_8 dsaL_law_64_8 41 rfl)
theorem dL_law_691 : decode cL_law 691 = .ok (.goto 1039, 3) := (show decode cL_law (639 + 52) = .ok (.goto 1039, 3) from dqs dskL_law_64_8 dsaL_law_64_8 42 rfl)
theorem dL_law_694 : decode cL_law 694 = .ok (.aload_n 1, 1) := (show decode cL_law (639 + 55) = .ok (.aload_n 1, 1) from dqs dskL_law_64_8 dsaL_law_64_8 43 rfl)
theorem dL_law_695 : decode cL_law 695 = .ok (.aload_n 0, 1) := (show decode cL_law (639 + 56) = .ok (.aload_n 0, 1) from dqs dskL_law_64_8 dsaL_law_64_8 44 rfl)
theorem dL_law_696 : decode cL_law 696 = .ok (.iload_n 3, 1) := (show decode cL_law (639 + 57) = .ok (.iload_n 3, 1) from dqs dskL_law_64_8 dsaL_law_64_8 45 rfl)
theorem dL_law_697 : decode cL_law 697 = .ok (.iconst 1, 1) := (show decode cL_law (639 + 58) = .ok (.iconst 1, 1) from dqs dskL_law_64_8 dsaL_law_64_8 46 rfl)
theorem dL_law_698 : decode cL_law 698 = .ok (.iadd, 1) := (show decode cL_law (639 + 59) = .ok (.iadd, 1) from dqs dskL_law_64_8 dsaL_law_64_8 47 rfl)
theorem dL_law_699 : decode cL_law 699 = .ok (.iaload, 1) := (show decode cL_law (639 + 60) = .ok (.iaload, 1) from dqs dskL_law_64_8 dsaL_law_64_8 48 rfl)
theorem dL_law_700 : decode cL_law 700 = .ok (.aload_n 0, 1) := (show decode cL_law (639 + 61) = .ok (.aload_n 0, 1) from dqs dskL_law_64_8 dsaL_law_64_8 49 rfl)
theorem dL_law_701 : decode cL_law 701 = .ok (.iload_n 3, 1) := (show decode cL_law (639 + 62) = .ok (.iload_n 3, 1) from dqs dskL_law_64_8 dsaL_law_64_8 50 rfl)
theorem dL_law_702 : decode cL_law 702 = .ok (.iconst 2, 1) := (show decode cL_law (639 + 63) = .ok (.iconst 2, 1) from dqs dskL_law_64_8 dsaL_law_64_8 51 rfl)
def dslL_law_64_9 : List UInt8 := [0x60, 0x2e, 0xb6, 0x00, 0x4b, 0x57, 0x2c, 0x2a, 0x1d, 0x04, 0x60, 0x2e, 0x2a, 0x1d, 0x05, 0x60, 0x2e, 0xb6, 0x00, 0x4e, 0x57, 0xa7, 0x03, 0xee, 0x2b, 0x2a, 0x1d, 0x04, 0x60, 0x2e, 0x2a, 0x1d, 0x05, 0x60, 0x2e, 0xb6, 0x00, 0x4f, 0x57, 0x2c, 0x2a, 0x1d, 0x04, 0x60, 0x2e, 0x2a, 0x1d, 0x05, 0x60, 0x2e, 0xb6, 0x00, 0x52, 0x57, 0xa7, 0x03, 0xcd, 0x2b, 0x2a, 0x1d, 0x04, 0x60, 0x2e]
theorem dskL_law_64_9 : (cL_law.data.toList.drop 703).take 63 = dslL_law_64_9 := by decide +kernel
def dstL_law_64_9 : List (Nat × Jvm.ClassFile.Instr × Nat) := [(0, .iadd, 1), (1, .iaload, 1), (2, .invokevirtual 75, 3), (5, .pop, 1), (6, .aload_n 2, 1), (7, .aload_n 0, 1), (8, .iload_n 3, 1), (9, .iconst 1, 1), (10, .iadd, 1), (11, .iaload, 1), (12, .aload_n 0, 1), (13, .iload_n 3, 1), (14, .iconst 2, 1), (15, .iadd, 1), (16, .iaload, 1), (17, .invokevirtual 78, 3), (20, .pop, 1), (21, .goto 1006, 3), (24, .aload_n 1, 1), (25, .aload_n 0, 1), (26, .iload_n 3, 1), (27, .iconst 1, 1), (28, .iadd, 1), (29, .iaload, 1), (30, .aload_n 0, 1), (31, .iload_n 3, 1), (32, .iconst 2, 1), (33, .iadd, 1), (34, .iaload, 1), (35, .invokevirtual 79, 3), (38, .pop, 1), (39, .aload_n 2, 1), (40, .aload_n 0, 1), (41, .iload_n 3, 1), (42, .iconst 1, 1), (43, .iadd, 1), (44, .iaload, 1), (45, .aload_n 0, 1), (46, .iload_n 3, 1), (47, .iconst 2, 1), (48, .iadd, 1), (49, .iaload, 1), (50, .invokevirtual 82, 3), (53, .pop, 1), (54, .goto 973, 3), (57, .aload_n 1, 1), (58, .aload_n 0, 1), (59, .iload_n 3, 1), (60, .iconst 1, 1), (61, .iadd, 1), (62, .iaload, 1)]
theorem dsaL_law_64_9 : dstL_law_64_9.all (dqs1 ⟨⟨dslL_law_64_9⟩⟩ 703) = true := by decide +kernel
theorem dL_law_703 : decode cL_law 703 = .ok (.iadd, 1) := (show decode cL_law (703 + 0) = .ok (.iadd, 1) from dqs dskL_law_64_9 dsaL_law_64_9 0 rfl)
theorem dL_law_704 : decode cL_law 704 = .ok (.iaload, 1) := (show decode cL_law (703 + 1) = .ok (.iaload, 1) from dqs dskL_law_64_9 dsaL_law_64_9 1 rfl)
theorem dL_law_705 : decode cL_law 705 = .ok (.invokevirtual 75, 3) := (show decode cL_law (703 + 2) = .ok (.invokevirtual 75, 3) from dqs dskL_law_64_9 dsaL_law_64_9 2 rfl)
theorem dL_law_708 : decode cL_law 708 = .ok (.pop, 1) := (show decode cL_law (703 + 5) = .ok (.pop, 1) from dqs dskL_law_64_9 dsaL_law_64_9 3 rfl)
theorem dL_law_709 : decode cL_law 709 = .ok (.aload_n 2, 1) := (show decode cL_law (703 + 6) = .ok (.aload_n 2, 1) from dqs dskL_law_64_9 dsaL_law_64_9 4 rfl)
theorem dL_law_710 : decode cL_law 710 = .ok (.aload_n 0, 1) := (show decode cL_law (703 + 7) = .ok (.aload_n 0, 1) from dqs dskL_law_64_9 dsaL_law_64_9 5 rfl)
theorem dL_law_711 : decode cL_law 711 = .ok (.iload_n 3, 1) := (show decode cL_law (703 + 8) = .ok (.iload_n 3, 1) from dqs dskL_law_64_9 dsaL_law_64_9 6 rfl)
theorem dL_law_712 : decode cL_law 712 = .ok (.iconst 1, 1) := (show decode cL_law (703 + 9) = .ok (.iconst 1, 1) from dqs dskL_law_64_9 dsaL_law_64_9 7 rfl)
theorem dL_law_713 : decode cL_law 713 = .ok (.iadd, 1) := (show decode cL_law (703 + 10) = .ok (.iadd, 1) from dqs dskL_law_64_9 dsaL_law_64_9 8 rfl)
theorem dL_law_714 : decode cL_law 714 = .ok (.iaload, 1) := (show decode cL_law (703 + 11) = .ok (.iaload, 1) from dqs dskL_law_64_9 dsaL_law_64_9 9 rfl)
theorem dL_law_715 : decode cL_law 715 = .ok (.aload_n 0, 1) := (show decode cL_law (703 + 12) = .ok (.aload_n 0, 1) from dqs dskL_law_64_9 dsaL_law_64_9 10 rfl)
theorem dL_law_716 : decode cL_law 716 = .ok (.iload_n 3, 1) := (show decode cL_law (703 + 13) = .ok (.iload_n 3, 1) from dqs dskL_law_64_9 dsaL_law_64_9 11 rfl)
theorem dL_law_717 : decode cL_law 717 = .ok (.iconst 2, 1) := (show decode cL_law (703 + 14) = .ok (.iconst 2, 1) from dqs dskL_law_64_9 dsaL_law_64_9 12 rfl)
theorem dL_law_718 : decode cL_law 718 = .ok (.iadd, 1) := (show decode cL_law (703 + 15) = .ok (.iadd, 1) from dqs dskL_law_64_9 dsaL_law_64_9 13 rfl)
theorem dL_law_719 : decode cL_law 719 = .ok (.iaload, 1) := (show decode cL_law (703 + 16) = .ok (.iaload, 1) from dqs dskL_law_64_9 dsaL_law_64_9 14 rfl)
theorem dL_law_720 : decode cL_law 720 = .ok (.invokevirtual 78, 3) := (show decode cL_law (703 + 17) = .ok (.invokevirtual 78, 3) from dqs dskL_law_64_9 dsaL_law_64_9 15 rfl)
theorem dL_law_723 : decode cL_law 723 = .ok (.pop, 1) := (show decode cL_law (703 + 20) = .ok (.pop, 1) from dqs dskL_law_64_9 dsaL_law_64_9 16 rfl)
theorem dL_law_724 : decode cL_law 724 = .ok (.goto 1006, 3) := (show decode cL_law (703 + 21) = .ok (.goto 1006, 3) from dqs dskL_law_64_9 dsaL_law_64_9 17 rfl)
theorem dL_law_727 : decode cL_law 727 = .ok (.aload_n 1, 1) := (show decode cL_law (703 + 24) = .ok (.aload_n 1, 1) from dqs dskL_law_64_9 dsaL_law_64_9 18 rfl)
theorem dL_law_728 : decode cL_law 728 = .ok (.aload_n 0, 1) := (show decode cL_law (703 + 25) = .ok (.aload_n 0, 1) from dqs dskL_law_64_9 dsaL_law_64_9 19 rfl)
theorem dL_law_729 : decode cL_law 729 = .ok (.iload_n 3, 1) := (show decode cL_law (703 + 26) = .ok (.iload_n 3, 1) from dqs dskL_law_64_9 dsaL_law_64_9 20 rfl)
theorem dL_law_730 : decode cL_law 730 = .ok (.iconst 1, 1) := (show decode cL_law (703 + 27) = .ok (.iconst 1, 1) from dqs dskL_law_64_9 dsaL_law_64_9 21 rfl)
theorem dL_law_731 : decode cL_law 731 = .ok (.iadd, 1) := (show decode cL_law (703 + 28) = .ok (.iadd, 1) from dqs dskL_law_64_9 dsaL_law_64_9 22 rfl)
theorem dL_law_732 : decode cL_law 732 = .ok (.iaload, 1) := (show decode cL_law (703 + 29) = .ok (.iaload, 1) from dqs dskL_law_64_9 dsaL_law_64_9 23 rfl)
theorem dL_law_733 : decode cL_law 733 = .ok (.aload_n 0, 1) := (show decode cL_law (703 + 30) = .ok (.aload_n 0, 1) from dqs dskL_law_64_9 dsaL_law_64_9 24 rfl)
theorem dL_law_734 : decode cL_law 734 = .ok (.iload_n 3, 1) := (show decode cL_law (703 + 31) = .ok (.iload_n 3, 1) from dqs dskL_law_64_9 dsaL_law_64_9 25 rfl)
theorem dL_law_735 : decode cL_law 735 = .ok (.iconst 2, 1) := (show decode cL_law (703 + 32) = .ok (.iconst 2, 1) from dqs dskL_law_64_9 dsaL_law_64_9 26 rfl)
theorem dL_law_736 : decode cL_law 736 = .ok (.iadd, 1) := (show decode cL_law (703 + 33) = .ok (.iadd, 1) from dqs dskL_law_64_9 dsaL_law_64_9 27 rfl)
theorem dL_law_737 : decode cL_law 737 = .ok (.iaload, 1) := (show decode cL_law (703 + 34) = .ok (.iaload, 1) from dqs dskL_law_64_9 dsaL_law_64_9 28 rfl)
theorem dL_law_738 : decode cL_law 738 = .ok (.invokevirtual 79, 3) := (show decode cL_law (703 + 35) = .ok (.invokevirtual 79, 3) from dqs dskL_law_64_9 dsaL_law_64_9 29 rfl)
theorem dL_law_741 : decode cL_law 741 = .ok (.pop, 1) := (show decode cL_law (703 + 38) = .ok (.pop, 1) from dqs dskL_law_64_9 dsaL_law_64_9 30 rfl)
theorem dL_law_742 : decode cL_law 742 = .ok (.aload_n 2, 1) := (show decode cL_law (703 + 39) = .ok (.aload_n 2, 1) from dqs dskL_law_64_9 dsaL_law_64_9 31 rfl)
theorem dL_law_743 : decode cL_law 743 = .ok (.aload_n 0, 1) := (show decode cL_law (703 + 40) = .ok (.aload_n 0, 1) from dqs dskL_law_64_9 dsaL_law_64_9 32 rfl)
theorem dL_law_744 : decode cL_law 744 = .ok (.iload_n 3, 1) := (show decode cL_law (703 + 41) = .ok (.iload_n 3, 1) from dqs dskL_law_64_9 dsaL_law_64_9 33 rfl)
theorem dL_law_745 : decode cL_law 745 = .ok (.iconst 1, 1) := (show decode cL_law (703 + 42) = .ok (.iconst 1, 1) from dqs dskL_law_64_9 dsaL_law_64_9 34 rfl)
theorem dL_law_746 : decode cL_law 746 = .ok (.iadd, 1) := (show decode cL_law (703 + 43) = .ok (.iadd, 1) from dqs dskL_law_64_9 dsaL_law_64_9 35 rfl)
theorem dL_law_747 : decode cL_law 747 = .ok (.iaload, 1) := (show decode cL_law (703 + 44) = .ok (.iaload, 1) from dqs dskL_law_64_9 dsaL_law_64_9 36 rfl)
theorem dL_law_748 : decode cL_law 748 = .ok (.aload_n 0, 1) := (show decode cL_law (703 + 45) = .ok (.aload_n 0, 1) from dqs dskL_law_64_9 dsaL_law_64_9 37 rfl)
theorem dL_law_749 : decode cL_law 749 = .ok (.iload_n 3, 1) := (show decode cL_law (703 + 46) = .ok (.iload_n 3, 1) from dqs dskL_law_64_9 dsaL_law_64_9 38 rfl)
theorem dL_law_750 : decode cL_law 750 = .ok (.iconst 2, 1) := (show decode cL_law (703 + 47) = .ok (.iconst 2, 1) from dqs dskL_law_64_9 dsaL_law_64_9 39 rfl)
theorem dL_law_751 : decode cL_law 751 = .ok (.iadd, 1) := (show decode cL_law (703 + 48) = .ok (.iadd, 1) from dqs dskL_law_64_9 dsaL_law_64_9 40 rfl)
theorem dL_law_752 : decode cL_law 752 = .ok (.iaload, 1) := (show decode cL_law (703 + 49) = .ok (.iaload, 1) from dqs dskL_law_64_9 dsaL_law_64_9 41 rfl)
theorem dL_law_753 : decode cL_law 753 = .ok (.invokevirtual 82, 3) := (show decode cL_law (703 + 50) = .ok (.invokevirtual 82, 3) from dqs dskL_law_64_9 dsaL_law_64_9 42 rfl)
theorem dL_law_756 : decode cL_law 756 = .ok (.pop, 1) := (show decode cL_law (703 + 53) = .ok (.pop, 1) from dqs dskL_law_64_9 dsaL_law_64_9 43 rfl)
theorem dL_law_757 : decode cL_law 757 = .ok (.goto 973, 3) := (show decode cL_law (703 + 54) = .ok (.goto 973, 3) from dqs dskL_law_64_9 dsaL_law_64_9 44 rfl)
theorem dL_law_760 : decode cL_law 760 = .ok (.aload_n 1, 1) := (show decode cL_law (703 + 57) = .ok (.aload_n 1, 1) from dqs dskL_law_64_9 dsaL_law_64_9 45 rfl)
theorem dL_law_761 : decode cL_law 761 = .ok (.aload_n 0, 1) := (show decode cL_law (703 + 58) = .ok (.aload_n 0, 1) from dqs dskL_law_64_9 dsaL_law_64_9 46 rfl)
theorem dL_law_762 : decode cL_law 762 = .ok (.iload_n 3, 1) := (show decode cL_law (703 + 59) = .ok (.iload_n 3, 1) from dqs dskL_law_64_9 dsaL_law_64_9 47 rfl)
theorem dL_law_763 : decode cL_law 763 = .ok (.iconst 1, 1) := (show decode cL_law (703 + 60) = .ok (.iconst 1, 1) from dqs dskL_law_64_9 dsaL_law_64_9 48 rfl)
theorem dL_law_764 : decode cL_law 764 = .ok (.iadd, 1) := (show decode cL_law (703 + 61) = .ok (.iadd, 1) from dqs dskL_law_64_9 dsaL_law_64_9 49 rfl)
theorem dL_law_765 : decode cL_law 765 = .ok (.iaload, 1) := (show decode cL_law (703 + 62) = .ok (.iaload, 1) from dqs dskL_law_64_9 dsaL_law_64_9 50 rfl)
def dslL_law_64_10 : List UInt8 := [0xb6, 0x00, 0x53, 0x57, 0x2c, 0x2a, 0x1d, 0x04, 0x60, 0x2e, 0xb6, 0x00, 0x56, 0x57, 0xa7, 0x03, 0xb6, 0x2b, 0x2a, 0x1d, 0x04, 0x60, 0x2e, 0xb6, 0x00, 0x57, 0x57, 0x2c, 0x2a, 0x1d, 0x04, 0x60, 0x2e, 0xb6, 0x00, 0x5b, 0x57, 0xa7, 0x03, 0x9f, 0x2b, 0x2a, 0x1d, 0x04, 0x60, 0x2e, 0x2a, 0x1d, 0x05, 0x60, 0x2e, 0x2a, 0x1d, 0x06, 0x60, 0x2e, 0x2a, 0x1d, 0x07, 0x60, 0x2e, 0x2a, 0x1d, 0x08]
theorem dskL_law_64_10 : (cL_law.data.toList.drop 766).take 64 = dslL_law_64_10 := by decide +kernel
def dstL_law_64_10 : List (Nat × Jvm.ClassFile.Instr × Nat) := [(0, .invokevirtual 83, 3), (3, .pop, 1), (4, .aload_n 2, 1), (5, .aload_n 0, 1), (6, .iload_n 3, 1), (7, .iconst 1, 1), (8, .iadd, 1), (9, .iaload, 1), (10, .invokevirtual 86, 3), (13, .pop, 1), (14, .goto 950, 3), (17, .aload_n 1, 1), (18, .aload_n 0, 1), (19, .iload_n 3, 1), (20, .iconst 1, 1), (21, .iadd, 1), (22, .iaload, 1), (23, .invokevirtual 87, 3), (26, .pop, 1), (27, .aload_n 2, 1), (28, .aload_n 0, 1), (29, .iload_n 3, 1), (30, .iconst 1, 1), (31, .iadd, 1), (32, .iaload, 1), (33, .invokevirtual 91, 3), (36, .pop, 1), (37, .goto 927, 3), (40, .aload_n 1, 1), (41, .aload_n 0, 1), (42, .iload_n 3, 1), (43, .iconst 1, 1), (44, .iadd, 1), (45, .iaload, 1), (46, .aload_n 0, 1), (47, .iload_n 3, 1), (48, .iconst 2, 1), (49, .iadd, 1), (50, .iaload, 1), (51, .aload_n 0, 1), (52, .iload_n 3, 1), (53, .iconst 3, 1), (54, .iadd, 1), (55, .iaload, 1), (56, .aload_n 0, 1), (57, .iload_n 3, 1), (58, .iconst 4, 1), (59, .iadd, 1), (60, .iaload, 1), (61, .aload_n 0, 1), (62, .iload_n 3, 1), (63, .iconst 5, 1)]
theorem dsaL_law_64_10 : dstL_law_64_10.all (dqs1 ⟨⟨dslL_law_64_10⟩⟩ 766) = true := by decide +kernel
theorem dL_law_766 : decode cL_law 766 = .ok (.invokevirtual 83, 3) := (show decode cL_law (766 + 0) = .ok (.invokevirtual 83, 3) from dqs dskL_law_64_10 dsaL_law_64_10 0 rfl)
theorem dL_law_769 : decode cL_law 769 = .ok (.pop, 1) := (show decode cL_law (766 + 3) = .ok (.pop, 1) from dqs dskL_law_64_10 dsaL_law_64_10 1 rfl)
theorem dL_law_770 : decode cL_law 770 = .ok (.aload_n 2, 1) := (show decode cL_law (766 + 4) = .ok (.aload_n 2, 1) from dqs dskL_law_64_10 dsaL_law_64_10 2 rfl)
theorem dL_law_771 : decode cL_law 771 = .ok (.aload_n 0, 1) := (show decode cL_law (766 + 5) = .ok (.aload_n 0, 1) from dqs dskL_law_64_10 dsaL_law_64_10 3 rfl)
theorem dL_law_772 : decode cL_law 772 = .ok (.iload_n 3, 1) := (show decode cL_law (766 + 6) = .ok (.iload_n 3, 1) from dqs dskL_law_64_10 dsaL_law_64_10 4 rfl)
theorem dL_law_773 : decode cL_law 773 = .ok (.iconst 1, 1) := (show decode cL_law (766 + 7) = .ok (.iconst 1, 1) from dqs dskL_law_64_10 dsaL_law_64_10 5 rfl)
theorem dL_law_774 : decode cL_law 774 = .ok (.iadd, 1) := (show decode cL_law (766 + 8) = .ok (.iadd, 1) from dqs dskL_law_64_10 dsaL_law_64_10 6 rfl)
theorem dL_law_775 : decode cL_law 775 = .ok (.iaload, 1) := (show decode cL_law (766 + 9) = .ok (.iaload, 1) from dqs dskL_law_64_10 dsaL_law_64_10 7 rfl)
theorem dL_law_776 : decode cL_law 776 = .ok (.invokevirtual 86, 3) := (show decode cL_law (766 + 10) = .ok (.invokevirtual 86, 3) from dqs dskL_law_64_10 dsaL_law_64_10 8 rfl)
theorem dL_law_779 : decode cL_law 779 = .ok (.pop, 1) := (show decode cL_law (766 + 13) = .ok (.pop, 1) from dqs dskL_law_64_10 dsaL_law_64_10 9 rfl)
theorem dL_law_780 : decode cL_law 780 = .ok (.goto 950, 3) := (show decode cL_law (766 + 14) = .ok (.goto 950, 3) from dqs dskL_law_64_10 dsaL_law_64_10 10 rfl)
theorem dL_law_783 : decode cL_law 783 = .ok (.aload_n 1, 1) := (show decode cL_law (766 + 17) = .ok (.aload_n 1, 1) from dqs dskL_law_64_10 dsaL_law_64_10 11 rfl)
theorem dL_law_784 : decode cL_law 784 = .ok (.aload_n 0, 1) := (show decode cL_law (766 + 18) = .ok (.aload_n 0, 1) from dqs dskL_law_64_10 dsaL_law_64_10 12 rfl)
theorem dL_law_785 : decode cL_law 785 = .ok (.iload_n 3, 1) := (show decode cL_law (766 + 19) = .ok (.iload_n 3, 1) from dqs dskL_law_64_10 dsaL_law_64_10 13 rfl)
theorem dL_law_786 : decode cL_law 786 = .ok (.iconst 1, 1) := (show decode cL_law (766 + 20) = .ok (.iconst 1, 1) from dqs dskL_law_64_10 dsaL_law_64_10 14 rfl)
theorem dL_law_787 : decode cL_law 787 = .ok (.iadd, 1) := (show decode cL_law (766 + 21) = .ok (.iadd, 1) from dqs dskL_law_64_10 dsaL_law_64_10 15 rfl)
theorem dL_law_788 : decode cL_law 788 = .ok (.iaload, 1) := (show decode cL_law (766 + 22) = .ok (.iaload, 1) from dqs dskL_law_64_10 dsaL_law_64_10 16 rfl)
theorem dL_law_789 : decode cL_law 789 = .ok (.invokevirtual 87, 3) := (show decode cL_law (766 + 23) = .ok (.invokevirtual 87, 3) from dqs dskL_law_64_10 dsaL_law_64_10 17 rfl)
theorem dL_law_792 : decode cL_law 792 = .ok (.pop, 1) := (show decode cL_law (766 + 26) = .ok (.pop, 1) from dqs dskL_law_64_10 dsaL_law_64_10 18 rfl)
theorem dL_law_793 : decode cL_law 793 = .ok (.aload_n 2, 1) := (show decode cL_law (766 + 27) = .ok (.aload_n 2, 1) from dqs dskL_law_64_10 dsaL_law_64_10 19 rfl)
theorem dL_law_794 : decode cL_law 794 = .ok (.aload_n 0, 1) := (show decode cL_law (766 + 28) = .ok (.aload_n 0, 1) from dqs dskL_law_64_10 dsaL_law_64_10 20 rfl)
theorem dL_law_795 : decode cL_law 795 = .ok (.iload_n 3, 1) := (show decode cL_law (766 + 29) = .ok (.iload_n 3, 1) from dqs dskL_law_64_10 dsaL_law_64_10 21 rfl)
theorem dL_law_796 : decode cL_law 796 = .ok (.iconst 1, 1) := (show decode cL_law (766 + 30) = .ok (.iconst 1, 1) from dqs dskL_law_64_10 dsaL_law_64_10 22 rfl)
theorem dL_law_797 : decode cL_law 797 = .ok (.iadd, 1) := (show decode cL_law (766 + 31) = .ok (.iadd, 1) from dqs dskL_law_64_10 dsaL_law_64_10 23 rfl)
theorem dL_law_798 : decode cL_law 798 = .ok (.iaload, 1) := (show decode cL_law (766 + 32) = .ok (.iaload, 1) from dqs dskL_law_64_10 dsaL_law_64_10 24 rfl)
theorem dL_law_799 : decode cL_law 799 = .ok (.invokevirtual 91, 3) := (show decode cL_law (766 + 33) = .ok (.invokevirtual 91, 3) from dqs dskL_law_64_10 dsaL_law_64_10 25 rfl)
theorem dL_law_802 : decode cL_law 802 = .ok (.pop, 1) := (show decode cL_law (766 + 36) = .ok (.pop, 1) from dqs dskL_law_64_10 dsaL_law_64_10 26 rfl)
theorem dL_law_803 : decode cL_law 803 = .ok (.goto 927, 3) := (show decode cL_law (766 + 37) = .ok (.goto 927, 3) from dqs dskL_law_64_10 dsaL_law_64_10 27 rfl)
theorem dL_law_806 : decode cL_law 806 = .ok (.aload_n 1, 1) := (show decode cL_law (766 + 40) = .ok (.aload_n 1, 1) from dqs dskL_law_64_10 dsaL_law_64_10 28 rfl)
theorem dL_law_807 : decode cL_law 807 = .ok (.aload_n 0, 1) := (show decode cL_law (766 + 41) = .ok (.aload_n 0, 1) from dqs dskL_law_64_10 dsaL_law_64_10 29 rfl)
theorem dL_law_808 : decode cL_law 808 = .ok (.iload_n 3, 1) := (show decode cL_law (766 + 42) = .ok (.iload_n 3, 1) from dqs dskL_law_64_10 dsaL_law_64_10 30 rfl)
theorem dL_law_809 : decode cL_law 809 = .ok (.iconst 1, 1) := (show decode cL_law (766 + 43) = .ok (.iconst 1, 1) from dqs dskL_law_64_10 dsaL_law_64_10 31 rfl)
theorem dL_law_810 : decode cL_law 810 = .ok (.iadd, 1) := (show decode cL_law (766 + 44) = .ok (.iadd, 1) from dqs dskL_law_64_10 dsaL_law_64_10 32 rfl)
theorem dL_law_811 : decode cL_law 811 = .ok (.iaload, 1) := (show decode cL_law (766 + 45) = .ok (.iaload, 1) from dqs dskL_law_64_10 dsaL_law_64_10 33 rfl)
theorem dL_law_812 : decode cL_law 812 = .ok (.aload_n 0, 1) := (show decode cL_law (766 + 46) = .ok (.aload_n 0, 1) from dqs dskL_law_64_10 dsaL_law_64_10 34 rfl)
theorem dL_law_813 : decode cL_law 813 = .ok (.iload_n 3, 1) := (show decode cL_law (766 + 47) = .ok (.iload_n 3, 1) from dqs dskL_law_64_10 dsaL_law_64_10 35 rfl)
theorem dL_law_814 : decode cL_law 814 = .ok (.iconst 2, 1) := (show decode cL_law (766 + 48) = .ok (.iconst 2, 1) from dqs dskL_law_64_10 dsaL_law_64_10 36 rfl)
theorem dL_law_815 : decode cL_law 815 = .ok (.iadd, 1) := (show decode cL_law (766 + 49) = .ok (.iadd, 1) from dqs dskL_law_64_10 dsaL_law_64_10 37 rfl)
theorem dL_law_816 : decode cL_law 816 = .ok (.iaload, 1) := (show decode cL_law (766 + 50) = .ok (.iaload, 1) from dqs dskL_law_64_10 dsaL_law_64_10 38 rfl)
theorem dL_law_817 : decode cL_law 817 = .ok (.aload_n 0, 1) := (show decode cL_law (766 + 51) = .ok (.aload_n 0, 1) from dqs dskL_law_64_10 dsaL_law_64_10 39 rfl)
theorem dL_law_818 : decode cL_law 818 = .ok (.iload_n 3, 1) := (show decode cL_law (766 + 52) = .ok (.iload_n 3, 1) from dqs dskL_law_64_10 dsaL_law_64_10 40 rfl)
theorem dL_law_819 : decode cL_law 819 = .ok (.iconst 3, 1) := (show decode cL_law (766 + 53) = .ok (.iconst 3, 1) from dqs dskL_law_64_10 dsaL_law_64_10 41 rfl)
theorem dL_law_820 : decode cL_law 820 = .ok (.iadd, 1) := (show decode cL_law (766 + 54) = .ok (.iadd, 1) from dqs dskL_law_64_10 dsaL_law_64_10 42 rfl)
theorem dL_law_821 : decode cL_law 821 = .ok (.iaload, 1) := (show decode cL_law (766 + 55) = .ok (.iaload, 1) from dqs dskL_law_64_10 dsaL_law_64_10 43 rfl)
theorem dL_law_822 : decode cL_law 822 = .ok (.aload_n 0, 1) := (show decode cL_law (766 + 56) = .ok (.aload_n 0, 1) from dqs dskL_law_64_10 dsaL_law_64_10 44 rfl)
theorem dL_law_823 : decode cL_law 823 = .ok (.iload_n 3, 1) := (show decode cL_law (766 + 57) = .ok (.iload_n 3, 1) from dqs dskL_law_64_10 dsaL_law_64_10 45 rfl)
theorem dL_law_824 : decode cL_law 824 = .ok (.iconst 4, 1) := (show decode cL_law (766 + 58) = .ok (.iconst 4, 1) from dqs dskL_law_64_10 dsaL_law_64_10 46 rfl)
theorem dL_law_825 : decode cL_law 825 = .ok (.iadd, 1) := (show decode cL_law (766 + 59) = .ok (.iadd, 1) from dqs dskL_law_64_10 dsaL_law_64_10 47 rfl)
theorem dL_law_826 : decode cL_law 826 = .ok (.iaload, 1) := (show decode cL_law (766 + 60) = .ok (.iaload, 1) from dqs dskL_law_64_10 dsaL_law_64_10 48 rfl)
theorem dL_law_827 : decode cL_law 827 = .ok (.aload_n 0, 1) := (show decode cL_law (766 + 61) = .ok (.aload_n 0, 1) from dqs dskL_law_64_10 dsaL_law_64_10 49 rfl)
theorem dL_law_828 : decode cL_law 828 = .ok (.iload_n 3, 1) := (show decode cL_law (766 + 62) = .ok (.iload_n 3, 1) from dqs dskL_law_64_10 dsaL_law_64_10 50 rfl)
theorem dL_law_829 : decode cL_law 829 = .ok (.iconst 5, 1) := (show decode cL_law (766 + 63) = .ok (.iconst 5, 1) from dqs dskL_law_64_10 dsaL_law_64_10 51 rfl)
def dslL_law_64_11 : List UInt8 := [0x60, 0x2e, 0x2a, 0x1d, 0x10, 0x06, 0x60, 0x2e, 0xb6, 0x00, 0x5c, 0x57, 0x2c, 0x2a, 0x1d, 0x04, 0x60, 0x2e, 0x2a, 0x1d, 0x05, 0x60, 0x2e, 0x2a, 0x1d, 0x06, 0x60, 0x2e, 0x2a, 0x1d, 0x07, 0x60, 0x2e, 0x2a, 0x1d, 0x08, 0x60, 0x2e, 0x2a, 0x1d, 0x10, 0x06, 0x60, 0x2e, 0xb6, 0x00, 0x60, 0x57, 0xa7, 0x03, 0x54, 0x2b, 0x2a, 0x1d, 0x04, 0x60, 0x2e, 0x2a, 0x1d, 0x05, 0x60, 0x2e, 0x2a, 0x1d]
theorem dskL_law_64_11 : (cL_law.data.toList.drop 830).take 64 = dslL_law_64_11 := by decide +kernel
def dstL_law_64_11 : List (Nat × Jvm.ClassFile.Instr × Nat) := [(0, .iadd, 1), (1, .iaload, 1), (2, .aload_n 0, 1), (3, .iload_n 3, 1), (4, .bipush 6, 2), (6, .iadd, 1), (7, .iaload, 1), (8, .invokevirtual 92, 3), (11, .pop, 1), (12, .aload_n 2, 1), (13, .aload_n 0, 1), (14, .iload_n 3, 1), (15, .iconst 1, 1), (16, .iadd, 1), (17, .iaload, 1), (18, .aload_n 0, 1), (19, .iload_n 3, 1), (20, .iconst 2, 1), (21, .iadd, 1), (22, .iaload, 1), (23, .aload_n 0, 1), (24, .iload_n 3, 1), (25, .iconst 3, 1), (26, .iadd, 1), (27, .iaload, 1), (28, .aload_n 0, 1), (29, .iload_n 3, 1), (30, .iconst 4, 1), (31, .iadd, 1), (32, .iaload, 1), (33, .aload_n 0, 1), (34, .iload_n 3, 1), (35, .iconst 5, 1), (36, .iadd, 1), (37, .iaload, 1), (38, .aload_n 0, 1), (39, .iload_n 3, 1), (40, .bipush 6, 2), (42, .iadd, 1), (43, .iaload, 1), (44, .invokevirtual 96, 3), (47, .pop, 1), (48, .goto 852, 3), (51, .aload_n 1, 1), (52, .aload_n 0, 1), (53, .iload_n 3, 1), (54, .iconst 1, 1), (55, .iadd, 1), (56, .iaload, 1), (57, .aload_n 0, 1), (58, .iload_n 3, 1), (59, .iconst 2, 1), (60, .iadd, 1), (61, .iaload, 1), (62, .aload_n 0, 1), (63, .iload_n 3, 1)]
theorem dsaL_law_64_11 : dstL_law_64_11.all (dqs1 ⟨⟨dslL_law_64_11⟩⟩ 830) = true := by decide +kernel
theorem dL_law_830 : decode cL_law 830 = .ok (.iadd, 1) := (show decode cL_law (830 + 0) = .ok (.iadd, 1) from dqs dskL_law_64_11 dsaL_law_64_11 0 rfl)
theorem dL_law_831 : decode cL_law 831 = .ok (.iaload, 1) := (show decode cL_law (830 + 1) = .ok (.iaload, 1) from dqs dskL_law_64_11 dsaL_law_64_11 1 rfl)
theorem dL_law_832 : decode cL_law 832 = .ok (.aload_n 0, 1) := (show decode cL_law (830 + 2) = .ok (.aload_n 0, 1) from dqs dskL_law_64_11 dsaL_law_64_11 2 rfl)
theorem dL_law_833 : decode cL_law 833 = .ok (.iload_n 3, 1) := (show decode cL_law (830 + 3) = .ok (.iload_n 3, 1) from dqs dskL_law_64_11 dsaL_law_64_11 3 rfl)
theorem dL_law_834 : decode cL_law 834 = .ok (.bipush 6, 2) := (show decode cL_law (830 + 4) = .ok (.bipush 6, 2) from dqs dskL_law_64_11 dsaL_law_64_11 4 rfl)
theorem dL_law_836 : decode cL_law 836 = .ok (.iadd, 1) := (show decode cL_law (830 + 6) = .ok (.iadd, 1) from dqs dskL_law_64_11 dsaL_law_64_11 5 rfl)
theorem dL_law_837 : decode cL_law 837 = .ok (.iaload, 1) := (show decode cL_law (830 + 7) = .ok (.iaload, 1) from dqs dskL_law_64_11 dsaL_law_64_11 6 rfl)
theorem dL_law_838 : decode cL_law 838 = .ok (.invokevirtual 92, 3) := (show decode cL_law (830 + 8) = .ok (.invokevirtual 92, 3) from dqs dskL_law_64_11 dsaL_law_64_11 7 rfl)
theorem dL_law_841 : decode cL_law 841 = .ok (.pop, 1) := (show decode cL_law (830 + 11) = .ok (.pop, 1) from dqs dskL_law_64_11 dsaL_law_64_11 8 rfl)
theorem dL_law_842 : decode cL_law 842 = .ok (.aload_n 2, 1) := (show decode cL_law (830 + 12) = .ok (.aload_n 2, 1) from dqs dskL_law_64_11 dsaL_law_64_11 9 rfl)
theorem dL_law_843 : decode cL_law 843 = .ok (.aload_n 0, 1) := (show decode cL_law (830 + 13) = .ok (.aload_n 0, 1) from dqs dskL_law_64_11 dsaL_law_64_11 10 rfl)
theorem dL_law_844 : decode cL_law 844 = .ok (.iload_n 3, 1) := (show decode cL_law (830 + 14) = .ok (.iload_n 3, 1) from dqs dskL_law_64_11 dsaL_law_64_11 11 rfl)
theorem dL_law_845 : decode cL_law 845 = .ok (.iconst 1, 1) := (show decode cL_law (830 + 15) = .ok (.iconst 1, 1) from dqs dskL_law_64_11 dsaL_law_64_11 12 rfl)
theorem dL_law_846 : decode cL_law 846 = .ok (.iadd, 1) := (show decode cL_law (830 + 16) = .ok (.iadd, 1) from dqs dskL_law_64_11 dsaL_law_64_11 13 rfl)
theorem dL_law_847 : decode cL_law 847 = .ok (.iaload, 1) := (show decode cL_law (830 + 17) = .ok (.iaload, 1) from dqs dskL_law_64_11 dsaL_law_64_11 14 rfl)
theorem dL_law_848 : decode cL_law 848 = .ok (.aload_n 0, 1) := (show decode cL_law (830 + 18) = .ok (.aload_n 0, 1) from dqs dskL_law_64_11 dsaL_law_64_11 15 rfl)
theorem dL_law_849 : decode cL_law 849 = .ok (.iload_n 3, 1) := (show decode cL_law (830 + 19) = .ok (.iload_n 3, 1) from dqs dskL_law_64_11 dsaL_law_64_11 16 rfl)
theorem dL_law_850 : decode cL_law 850 = .ok (.iconst 2, 1) := (show decode cL_law (830 + 20) = .ok (.iconst 2, 1) from dqs dskL_law_64_11 dsaL_law_64_11 17 rfl)
theorem dL_law_851 : decode cL_law 851 = .ok (.iadd, 1) := (show decode cL_law (830 + 21) = .ok (.iadd, 1) from dqs dskL_law_64_11 dsaL_law_64_11 18 rfl)
theorem dL_law_852 : decode cL_law 852 = .ok (.iaload, 1) := (show decode cL_law (830 + 22) = .ok (.iaload, 1) from dqs dskL_law_64_11 dsaL_law_64_11 19 rfl)
theorem dL_law_853 : decode cL_law 853 = .ok (.aload_n 0, 1) := (show decode cL_law (830 + 23) = .ok (.aload_n 0, 1) from dqs dskL_law_64_11 dsaL_law_64_11 20 rfl)
theorem dL_law_854 : decode cL_law 854 = .ok (.iload_n 3, 1) := (show decode cL_law (830 + 24) = .ok (.iload_n 3, 1) from dqs dskL_law_64_11 dsaL_law_64_11 21 rfl)
theorem dL_law_855 : decode cL_law 855 = .ok (.iconst 3, 1) := (show decode cL_law (830 + 25) = .ok (.iconst 3, 1) from dqs dskL_law_64_11 dsaL_law_64_11 22 rfl)
theorem dL_law_856 : decode cL_law 856 = .ok (.iadd, 1) := (show decode cL_law (830 + 26) = .ok (.iadd, 1) from dqs dskL_law_64_11 dsaL_law_64_11 23 rfl)
theorem dL_law_857 : decode cL_law 857 = .ok (.iaload, 1) := (show decode cL_law (830 + 27) = .ok (.iaload, 1) from dqs dskL_law_64_11 dsaL_law_64_11 24 rfl)
theorem dL_law_858 : decode cL_law 858 = .ok (.aload_n 0, 1) := (show decode cL_law (830 + 28) = .ok (.aload_n 0, 1) from dqs dskL_law_64_11 dsaL_law_64_11 25 rfl)
theorem dL_law_859 : decode cL_law 859 = .ok (.iload_n 3, 1) := (show decode cL_law (830 + 29) = .ok (.iload_n 3, 1) from dqs dskL_law_64_11 dsaL_law_64_11 26 rfl)
theorem dL_law_860 : decode cL_law 860 = .ok (.iconst 4, 1) := (show decode cL_law (830 + 30) = .ok (.iconst 4, 1) from dqs dskL_law_64_11 dsaL_law_64_11 27 rfl)
theorem dL_law_861 : decode cL_law 861 = .ok (.iadd, 1) := (show decode cL_law (830 + 31) = .ok (.iadd, 1) from dqs dskL_law_64_11 dsaL_law_64_11 28 rfl)
theorem dL_law_862 : decode cL_law 862 = .ok (.iaload, 1) := (show decode cL_law (830 + 32) = .ok (.iaload, 1) from dqs dskL_law_64_11 dsaL_law_64_11 29 rfl)
theorem dL_law_863 : decode cL_law 863 = .ok (.aload_n 0, 1) := (show decode cL_law (830 + 33) = .ok (.aload_n 0, 1) from dqs dskL_law_64_11 dsaL_law_64_11 30 rfl)
theorem dL_law_864 : decode cL_law 864 = .ok (.iload_n 3, 1) := (show decode cL_law (830 + 34) = .ok (.iload_n 3, 1) from dqs dskL_law_64_11 dsaL_law_64_11 31 rfl)
theorem dL_law_865 : decode cL_law 865 = .ok (.iconst 5, 1) := (show decode cL_law (830 + 35) = .ok (.iconst 5, 1) from dqs dskL_law_64_11 dsaL_law_64_11 32 rfl)
theorem dL_law_866 : decode cL_law 866 = .ok (.iadd, 1) := (show decode cL_law (830 + 36) = .ok (.iadd, 1) from dqs dskL_law_64_11 dsaL_law_64_11 33 rfl)
theorem dL_law_867 : decode cL_law 867 = .ok (.iaload, 1) := (show decode cL_law (830 + 37) = .ok (.iaload, 1) from dqs dskL_law_64_11 dsaL_law_64_11 34 rfl)
theorem dL_law_868 : decode cL_law 868 = .ok (.aload_n 0, 1) := (show decode cL_law (830 + 38) = .ok (.aload_n 0, 1) from dqs dskL_law_64_11 dsaL_law_64_11 35 rfl)
theorem dL_law_869 : decode cL_law 869 = .ok (.iload_n 3, 1) := (show decode cL_law (830 + 39) = .ok (.iload_n 3, 1) from dqs dskL_law_64_11 dsaL_law_64_11 36 rfl)
theorem dL_law_870 : decode cL_law 870 = .ok (.bipush 6, 2) := (show decode cL_law (830 + 40) = .ok (.bipush 6, 2) from dqs dskL_law_64_11 dsaL_law_64_11 37 rfl)
theorem dL_law_872 : decode cL_law 872 = .ok (.iadd, 1) := (show decode cL_law (830 + 42) = .ok (.iadd, 1) from dqs dskL_law_64_11 dsaL_law_64_11 38 rfl)
theorem dL_law_873 : decode cL_law 873 = .ok (.iaload, 1) := (show decode cL_law (830 + 43) = .ok (.iaload, 1) from dqs dskL_law_64_11 dsaL_law_64_11 39 rfl)
theorem dL_law_874 : decode cL_law 874 = .ok (.invokevirtual 96, 3) := (show decode cL_law (830 + 44) = .ok (.invokevirtual 96, 3) from dqs dskL_law_64_11 dsaL_law_64_11 40 rfl)
theorem dL_law_877 : decode cL_law 877 = .ok (.pop, 1) := (show decode cL_law (830 + 47) = .ok (.pop, 1) from dqs dskL_law_64_11 dsaL_law_64_11 41 rfl)
theorem dL_law_878 : decode cL_law 878 = .ok (.goto 852, 3) := (show decode cL_law (830 + 48) = .ok (.goto 852, 3) from dqs dskL_law_64_11 dsaL_law_64_11 42 rfl)
theorem dL_law_881 : decode cL_law 881 = .ok (.aload_n 1, 1) := (show decode cL_law (830 + 51) = .ok (.aload_n 1, 1) from dqs dskL_law_64_11 dsaL_law_64_11 43 rfl)
theorem dL_law_882 : decode cL_law 882 = .ok (.aload_n 0, 1) := (show decode cL_law (830 + 52) = .ok (.aload_n 0, 1) from dqs dskL_law_64_11 dsaL_law_64_11 44 rfl)
theorem dL_law_883 : decode cL_law 883 = .ok (.iload_n 3, 1) := (show decode cL_law (830 + 53) = .ok (.iload_n 3, 1) from dqs dskL_law_64_11 dsaL_law_64_11 45 rfl)
theorem dL_law_884 : decode cL_law 884 = .ok (.iconst 1, 1) := (show decode cL_law (830 + 54) = .ok (.iconst 1, 1) from dqs dskL_law_64_11 dsaL_law_64_11 46 rfl)
theorem dL_law_885 : decode cL_law 885 = .ok (.iadd, 1) := (show decode cL_law (830 + 55) = .ok (.iadd, 1) from dqs dskL_law_64_11 dsaL_law_64_11 47 rfl)
theorem dL_law_886 : decode cL_law 886 = .ok (.iaload, 1) := (show decode cL_law (830 + 56) = .ok (.iaload, 1) from dqs dskL_law_64_11 dsaL_law_64_11 48 rfl)
theorem dL_law_887 : decode cL_law 887 = .ok (.aload_n 0, 1) := (show decode cL_law (830 + 57) = .ok (.aload_n 0, 1) from dqs dskL_law_64_11 dsaL_law_64_11 49 rfl)
theorem dL_law_888 : decode cL_law 888 = .ok (.iload_n 3, 1) := (show decode cL_law (830 + 58) = .ok (.iload_n 3, 1) from dqs dskL_law_64_11 dsaL_law_64_11 50 rfl)
theorem dL_law_889 : decode cL_law 889 = .ok (.iconst 2, 1) := (show decode cL_law (830 + 59) = .ok (.iconst 2, 1) from dqs dskL_law_64_11 dsaL_law_64_11 51 rfl)
theorem dL_law_890 : decode cL_law 890 = .ok (.iadd, 1) := (show decode cL_law (830 + 60) = .ok (.iadd, 1) from dqs dskL_law_64_11 dsaL_law_64_11 52 rfl)
theorem dL_law_891 : decode cL_law 891 = .ok (.iaload, 1) := (show decode cL_law (830 + 61) = .ok (.iaload, 1) from dqs dskL_law_64_11 dsaL_law_64_11 53 rfl)
theorem dL_law_892 : decode cL_law 892 = .ok (.aload_n 0, 1) := (show decode cL_law (830 + 62) = .ok (.aload_n 0, 1) from dqs dskL_law_64_11 dsaL_law_64_11 54 rfl)
theorem dL_law_893 : decode cL_law 893 = .ok (.iload_n 3, 1) := (show decode cL_law (830 + 63) = .ok (.iload_n 3, 1) from dqs dskL_law_64_11 dsaL_law_64_11 55 rfl)
def dslL_law_64_12 : List UInt8 := [0x06, 0x60, 0x2e, 0x2a, 0x1d, 0x07, 0x60, 0x2e, 0x2a, 0x1d, 0x08, 0x60, 0x2e, 0x2a, 0x1d, 0x10, 0x06, 0x60, 0x2e, 0x2a, 0x1d, 0x10, 0x07, 0x60, 0x2e, 0x2a, 0x1d, 0x10, 0x08, 0x60, 0x2e, 0xb6, 0x00, 0x61, 0x57, 0x2c, 0x2a, 0x1d, 0x04, 0x60, 0x2e, 0x2a, 0x1d, 0x05, 0x60, 0x2e, 0x2a, 0x1d, 0x06, 0x60, 0x2e, 0x2a, 0x1d, 0x07, 0x60, 0x2e, 0x2a, 0x1d, 0x08, 0x60, 0x2e, 0x2a, 0x1d]
theorem dskL_law_64_12 : (cL_law.data.toList.drop 894).take 63 = dslL_law_64_12 := by decide +kernel
def dstL_law_64_12 : List (Nat × Jvm.ClassFile.Instr × Nat) := [(0, .iconst 3, 1), (1, .iadd, 1), (2, .iaload, 1), (3, .aload_n 0, 1), (4, .iload_n 3, 1), (5, .iconst 4, 1), (6, .iadd, 1), (7, .iaload, 1), (8, .aload_n 0, 1), (9, .iload_n 3, 1), (10, .iconst 5, 1), (11, .iadd, 1), (12, .iaload, 1), (13, .aload_n 0, 1), (14, .iload_n 3, 1), (15, .bipush 6, 2), (17, .iadd, 1), (18, .iaload, 1), (19, .aload_n 0, 1), (20, .iload_n 3, 1), (21, .bipush 7, 2), (23, .iadd, 1), (24, .iaload, 1), (25, .aload_n 0, 1), (26, .iload_n 3, 1), (27, .bipush 8, 2), (29, .iadd, 1), (30, .iaload, 1), (31, .invokevirtual 97, 3), (34, .pop, 1), (35, .aload_n 2, 1), (36, .aload_n 0, 1), (37, .iload_n 3, 1), (38, .iconst 1, 1), (39, .iadd, 1), (40, .iaload, 1), (41, .aload_n 0, 1), (42, .iload_n 3, 1), (43, .iconst 2, 1), (44, .iadd, 1), (45, .iaload, 1), (46, .aload_n 0, 1), (47, .iload_n 3, 1), (48, .iconst 3, 1), (49, .iadd, 1), (50, .iaload, 1), (51, .aload_n 0, 1), (52, .iload_n 3, 1), (53, .iconst 4, 1), (54, .iadd, 1), (55, .iaload, 1), (56, .aload_n 0, 1), (57, .iload_n 3, 1), (58, .iconst 5, 1), (59, .iadd, 1), (60, .iaload, 1), (61, .aload_n 0, 1), (62, .iload_n 3, 1)]
theorem dsaL_law_64_12 : dstL_law_64_12.all (dqs1 ⟨⟨dslL_law_64_12⟩⟩ 894) = true := by decide +kernel
theorem dL_law_894 : decode cL_law 894 = .ok (.iconst 3, 1) := (show decode cL_law (894 + 0) = .ok (.iconst 3, 1) from dqs dskL_law_64_12 dsaL_law_64_12 0 rfl)
theorem dL_law_895 : decode cL_law 895 = .ok (.iadd, 1) := (show decode cL_law (894 + 1) = .ok (.iadd, 1) from dqs dskL_law_64_12 dsaL_law_64_12 1 rfl)
theorem dL_law_896 : decode cL_law 896 = .ok (.iaload, 1) := (show decode cL_law (894 + 2) = .ok (.iaload, 1) from dqs dskL_law_64_12 dsaL_law_64_12 2 rfl)
theorem dL_law_897 : decode cL_law 897 = .ok (.aload_n 0, 1) := (show decode cL_law (894 + 3) = .ok (.aload_n 0, 1) from dqs dskL_law_64_12 dsaL_law_64_12 3 rfl)
theorem dL_law_898 : decode cL_law 898 = .ok (.iload_n 3, 1) := (show decode cL_law (894 + 4) = .ok (.iload_n 3, 1) from dqs dskL_law_64_12 dsaL_law_64_12 4 rfl)
theorem dL_law_899 : decode cL_law 899 = .ok (.iconst 4, 1) := (show decode cL_law (894 + 5) = .ok (.iconst 4, 1) from dqs dskL_law_64_12 dsaL_law_64_12 5 rfl)
theorem dL_law_900 : decode cL_law 900 = .ok (.iadd, 1) := (show decode cL_law (894 + 6) = .ok (.iadd, 1) from dqs dskL_law_64_12 dsaL_law_64_12 6 rfl)
theorem dL_law_901 : decode cL_law 901 = .ok (.iaload, 1) := (show decode cL_law (894 + 7) = .ok (.iaload, 1) from dqs dskL_law_64_12 dsaL_law_64_12 7 rfl)
theorem dL_law_902 : decode cL_law 902 = .ok (.aload_n 0, 1) := (show decode cL_law (894 + 8) = .ok (.aload_n 0, 1) from dqs dskL_law_64_12 dsaL_law_64_12 8 rfl)
theorem dL_law_903 : decode cL_law 903 = .ok (.iload_n 3, 1) := (show decode cL_law (894 + 9) = .ok (.iload_n 3, 1) from dqs dskL_law_64_12 dsaL_law_64_12 9 rfl)
theorem dL_law_904 : decode cL_law 904 = .ok (.iconst 5, 1) := (show decode cL_law (894 + 10) = .ok (.iconst 5, 1) from dqs dskL_law_64_12 dsaL_law_64_12 10 rfl)
theorem dL_law_905 : decode cL_law 905 = .ok (.iadd, 1) := (show decode cL_law (894 + 11) = .ok (.iadd, 1) from dqs dskL_law_64_12 dsaL_law_64_12 11 rfl)
theorem dL_law_906 : decode cL_law 906 = .ok (.iaload, 1) := (show decode cL_law (894 + 12) = .ok (.iaload, 1) from dqs dskL_law_64_12 dsaL_law_64_12 12 rfl)
theorem dL_law_907 : decode cL_law 907 = .ok (.aload_n 0, 1) := (show decode cL_law (894 + 13) = .ok (.aload_n 0, 1) from dqs dskL_law_64_12 dsaL_law_64_12 13 rfl)
theorem dL_law_908 : decode cL_law 908 = .ok (.iload_n 3, 1) := (show decode cL_law (894 + 14) = .ok (.iload_n 3, 1) from dqs dskL_law_64_12 dsaL_law_64_12 14 rfl)
theorem dL_law_909 : decode cL_law 909 = .ok (.bipush 6, 2) := (show decode cL_law (894 + 15) = .ok (.bipush 6, 2) from dqs dskL_law_64_12 dsaL_law_64_12 15 rfl)
theorem dL_law_911 : decode cL_law 911 = .ok (.iadd, 1) := (show decode cL_law (894 + 17) = .ok (.iadd, 1) from dqs dskL_law_64_12 dsaL_law_64_12 16 rfl)
theorem dL_law_912 : decode cL_law 912 = .ok (.iaload, 1) := (show decode cL_law (894 + 18) = .ok (.iaload, 1) from dqs dskL_law_64_12 dsaL_law_64_12 17 rfl)
theorem dL_law_913 : decode cL_law 913 = .ok (.aload_n 0, 1) := (show decode cL_law (894 + 19) = .ok (.aload_n 0, 1) from dqs dskL_law_64_12 dsaL_law_64_12 18 rfl)
theorem dL_law_914 : decode cL_law 914 = .ok (.iload_n 3, 1) := (show decode cL_law (894 + 20) = .ok (.iload_n 3, 1) from dqs dskL_law_64_12 dsaL_law_64_12 19 rfl)
theorem dL_law_915 : decode cL_law 915 = .ok (.bipush 7, 2) := (show decode cL_law (894 + 21) = .ok (.bipush 7, 2) from dqs dskL_law_64_12 dsaL_law_64_12 20 rfl)
theorem dL_law_917 : decode cL_law 917 = .ok (.iadd, 1) := (show decode cL_law (894 + 23) = .ok (.iadd, 1) from dqs dskL_law_64_12 dsaL_law_64_12 21 rfl)
theorem dL_law_918 : decode cL_law 918 = .ok (.iaload, 1) := (show decode cL_law (894 + 24) = .ok (.iaload, 1) from dqs dskL_law_64_12 dsaL_law_64_12 22 rfl)
theorem dL_law_919 : decode cL_law 919 = .ok (.aload_n 0, 1) := (show decode cL_law (894 + 25) = .ok (.aload_n 0, 1) from dqs dskL_law_64_12 dsaL_law_64_12 23 rfl)
theorem dL_law_920 : decode cL_law 920 = .ok (.iload_n 3, 1) := (show decode cL_law (894 + 26) = .ok (.iload_n 3, 1) from dqs dskL_law_64_12 dsaL_law_64_12 24 rfl)
theorem dL_law_921 : decode cL_law 921 = .ok (.bipush 8, 2) := (show decode cL_law (894 + 27) = .ok (.bipush 8, 2) from dqs dskL_law_64_12 dsaL_law_64_12 25 rfl)
theorem dL_law_923 : decode cL_law 923 = .ok (.iadd, 1) := (show decode cL_law (894 + 29) = .ok (.iadd, 1) from dqs dskL_law_64_12 dsaL_law_64_12 26 rfl)
theorem dL_law_924 : decode cL_law 924 = .ok (.iaload, 1) := (show decode cL_law (894 + 30) = .ok (.iaload, 1) from dqs dskL_law_64_12 dsaL_law_64_12 27 rfl)
theorem dL_law_925 : decode cL_law 925 = .ok (.invokevirtual 97, 3) := (show decode cL_law (894 + 31) = .ok (.invokevirtual 97, 3) from dqs dskL_law_64_12 dsaL_law_64_12 28 rfl)
theorem dL_law_928 : decode cL_law 928 = .ok (.pop, 1) := (show decode cL_law (894 + 34) = .ok (.pop, 1) from dqs dskL_law_64_12 dsaL_law_64_12 29 rfl)
theorem dL_law_929 : decode cL_law 929 = .ok (.aload_n 2, 1) := (show decode cL_law (894 + 35) = .ok (.aload_n 2, 1) from dqs dskL_law_64_12 dsaL_law_64_12 30 rfl)
theorem dL_law_930 : decode cL_law 930 = .ok (.aload_n 0, 1) := (show decode cL_law (894 + 36) = .ok (.aload_n 0, 1) from dqs dskL_law_64_12 dsaL_law_64_12 31 rfl)
theorem dL_law_931 : decode cL_law 931 = .ok (.iload_n 3, 1) := (show decode cL_law (894 + 37) = .ok (.iload_n 3, 1) from dqs dskL_law_64_12 dsaL_law_64_12 32 rfl)
theorem dL_law_932 : decode cL_law 932 = .ok (.iconst 1, 1) := (show decode cL_law (894 + 38) = .ok (.iconst 1, 1) from dqs dskL_law_64_12 dsaL_law_64_12 33 rfl)
theorem dL_law_933 : decode cL_law 933 = .ok (.iadd, 1) := (show decode cL_law (894 + 39) = .ok (.iadd, 1) from dqs dskL_law_64_12 dsaL_law_64_12 34 rfl)
theorem dL_law_934 : decode cL_law 934 = .ok (.iaload, 1) := (show decode cL_law (894 + 40) = .ok (.iaload, 1) from dqs dskL_law_64_12 dsaL_law_64_12 35 rfl)
theorem dL_law_935 : decode cL_law 935 = .ok (.aload_n 0, 1) := (show decode cL_law (894 + 41) = .ok (.aload_n 0, 1) from dqs dskL_law_64_12 dsaL_law_64_12 36 rfl)
theorem dL_law_936 : decode cL_law 936 = .ok (.iload_n 3, 1) := (show decode cL_law (894 + 42) = .ok (.iload_n 3, 1) from dqs dskL_law_64_12 dsaL_law_64_12 37 rfl)
theorem dL_law_937 : decode cL_law 937 = .ok (.iconst 2, 1) := (show decode cL_law (894 + 43) = .ok (.iconst 2, 1) from dqs dskL_law_64_12 dsaL_law_64_12 38 rfl)
theorem dL_law_938 : decode cL_law 938 = .ok (.iadd, 1) := (show decode cL_law (894 + 44) = .ok (.iadd, 1) from dqs dskL_law_64_12 dsaL_law_64_12 39 rfl)
theorem dL_law_939 : decode cL_law 939 = .ok (.iaload, 1) := (show decode cL_law (894 + 45) = .ok (.iaload, 1) from dqs dskL_law_64_12 dsaL_law_64_12 40 rfl)
theorem dL_law_940 : decode cL_law 940 = .ok (.aload_n 0, 1) := (show decode cL_law (894 + 46) = .ok (.aload_n 0, 1) from dqs dskL_law_64_12 dsaL_law_64_12 41 rfl)
theorem dL_law_941 : decode cL_law 941 = .ok (.iload_n 3, 1) := (show decode cL_law (894 + 47) = .ok (.iload_n 3, 1) from dqs dskL_law_64_12 dsaL_law_64_12 42 rfl)
theorem dL_law_942 : decode cL_law 942 = .ok (.iconst 3, 1) := (show decode cL_law (894 + 48) = .ok (.iconst 3, 1) from dqs dskL_law_64_12 dsaL_law_64_12 43 rfl)
theorem dL_law_943 : decode cL_law 943 = .ok (.iadd, 1) := (show decode cL_law (894 + 49) = .ok (.iadd, 1) from dqs dskL_law_64_12 dsaL_law_64_12 44 rfl)
theorem dL_law_944 : decode cL_law 944 = .ok (.iaload, 1) := (show decode cL_law (894 + 50) = .ok (.iaload, 1) from dqs dskL_law_64_12 dsaL_law_64_12 45 rfl)
theorem dL_law_945 : decode cL_law 945 = .ok (.aload_n 0, 1) := (show decode cL_law (894 + 51) = .ok (.aload_n 0, 1) from dqs dskL_law_64_12 dsaL_law_64_12 46 rfl)
theorem dL_law_946 : decode cL_law 946 = .ok (.iload_n 3, 1) := (show decode cL_law (894 + 52) = .ok (.iload_n 3, 1) from dqs dskL_law_64_12 dsaL_law_64_12 47 rfl)
theorem dL_law_947 : decode cL_law 947 = .ok (.iconst 4, 1) := (show decode cL_law (894 + 53) = .ok (.iconst 4, 1) from dqs dskL_law_64_12 dsaL_law_64_12 48 rfl)
theorem dL_law_948 : decode cL_law 948 = .ok (.iadd, 1) := (show decode cL_law (894 + 54) = .ok (.iadd, 1) from dqs dskL_law_64_12 dsaL_law_64_12 49 rfl)
theorem dL_law_949 : decode cL_law 949 = .ok (.iaload, 1) := (show decode cL_law (894 + 55) = .ok (.iaload, 1) from dqs dskL_law_64_12 dsaL_law_64_12 50 rfl)
theorem dL_law_950 : decode cL_law 950 = .ok (.aload_n 0, 1) := (show decode cL_law (894 + 56) = .ok (.aload_n 0, 1) from dqs dskL_law_64_12 dsaL_law_64_12 51 rfl)
theorem dL_law_951 : decode cL_law 951 = .ok (.iload_n 3, 1) := (show decode cL_law (894 + 57) = .ok (.iload_n 3, 1) from dqs dskL_law_64_12 dsaL_law_64_12 52 rfl)
theorem dL_law_952 : decode cL_law 952 = .ok (.iconst 5, 1) := (show decode cL_law (894 + 58) = .ok (.iconst 5, 1) from dqs dskL_law_64_12 dsaL_law_64_12 53 rfl)
theorem dL_law_953 : decode cL_law 953 = .ok (.iadd, 1) := (show decode cL_law (894 + 59) = .ok (.iadd, 1) from dqs dskL_law_64_12 dsaL_law_64_12 54 rfl)
theorem dL_law_954 : decode cL_law 954 = .ok (.iaload, 1) := (show decode cL_law (894 + 60) = .ok (.iaload, 1) from dqs dskL_law_64_12 dsaL_law_64_12 55 rfl)
theorem dL_law_955 : decode cL_law 955 = .ok (.aload_n 0, 1) := (show decode cL_law (894 + 61) = .ok (.aload_n 0, 1) from dqs dskL_law_64_12 dsaL_law_64_12 56 rfl)
theorem dL_law_956 : decode cL_law 956 = .ok (.iload_n 3, 1) := (show decode cL_law (894 + 62) = .ok (.iload_n 3, 1) from dqs dskL_law_64_12 dsaL_law_64_12 57 rfl)
def dslL_law_64_13 : List UInt8 := [0x10, 0x06, 0x60, 0x2e, 0x2a, 0x1d, 0x10, 0x07, 0x60, 0x2e, 0x2a, 0x1d, 0x10, 0x08, 0x60, 0x2e, 0xb6, 0x00, 0x65, 0x57, 0xa7, 0x02, 0xf1, 0x2b, 0x2a, 0x1d, 0x04, 0x60, 0x2e, 0x2a, 0x1d, 0x05, 0x60, 0x2e, 0xb6, 0x00, 0x66, 0x57, 0x2c, 0x2a, 0x1d, 0x04, 0x60, 0x2e, 0x2a, 0x1d, 0x05, 0x60, 0x2e, 0xb6, 0x00, 0x69, 0x57, 0xa7, 0x02, 0xd0, 0x2b, 0x2a, 0x1d, 0x04, 0x60, 0x2e, 0x2a, 0x1d]
theorem dskL_law_64_13 : (cL_law.data.toList.drop 957).take 64 = dslL_law_64_13 := by decide +kernel
def dstL_law_64_13 : List (Nat × Jvm.ClassFile.Instr × Nat) := [(0, .bipush 6, 2), (2, .iadd, 1), (3, .iaload, 1), (4, .aload_n 0, 1), (5, .iload_n 3, 1), (6, .bipush 7, 2), (8, .iadd, 1), (9, .iaload, 1), (10, .aload_n 0, 1), (11, .iload_n 3, 1), (12, .bipush 8, 2), (14, .iadd, 1), (15, .iaload, 1), (16, .invokevirtual 101, 3), (19, .pop, 1), (20, .goto 753, 3), (23, .aload_n 1, 1), (24, .aload_n 0, 1), (25, .iload_n 3, 1), (26, .iconst 1, 1), (27, .iadd, 1), (28, .iaload, 1), (29, .aload_n 0, 1), (30, .iload_n 3, 1), (31, .iconst 2, 1), (32, .iadd, 1), (33, .iaload, 1), (34, .invokevirtual 102, 3), (37, .pop, 1), (38, .aload_n 2, 1), (39, .aload_n 0, 1), (40, .iload_n 3, 1), (41, .iconst 1, 1), (42, .iadd, 1), (43, .iaload, 1), (44, .aload_n 0, 1), (45, .iload_n 3, 1), (46, .iconst 2, 1), (47, .iadd, 1), (48, .iaload, 1), (49, .invokevirtual 105, 3), (52, .pop, 1), (53, .goto 720, 3), (56, .aload_n 1, 1), (57, .aload_n 0, 1), (58, .iload_n 3, 1), (59, .iconst 1, 1), (60, .iadd, 1), (61, .iaload, 1), (62, .aload_n 0, 1), (63, .iload_n 3, 1)]
theorem dsaL_law_64_13 : dstL_law_64_13.all (dqs1 ⟨⟨dslL_law_64_13⟩⟩ 957) = true := by decide +kernel
theorem dL_law_957 : decode cL_law 957 = .ok (.bipush 6, 2) := (show decode cL_law (957 + 0) = .ok (.bipush 6, 2) from dqs dskL_law_64_13 dsaL_law_64_13 0 rfl)
theorem dL_law_959 : decode cL_law 959 = .ok (.iadd, 1) := (show decode cL_law (957 + 2) = .ok (.iadd, 1) from dqs dskL_law_64_13 dsaL_law_64_13 1 rfl)
theorem dL_law_960 : decode cL_law 960 = .ok (.iaload, 1) := (show decode cL_law (957 + 3) = .ok (.iaload, 1) from dqs dskL_law_64_13 dsaL_law_64_13 2 rfl)
theorem dL_law_961 : decode cL_law 961 = .ok (.aload_n 0, 1) := (show decode cL_law (957 + 4) = .ok (.aload_n 0, 1) from dqs dskL_law_64_13 dsaL_law_64_13 3 rfl)
theorem dL_law_962 : decode cL_law 962 = .ok (.iload_n 3, 1) := (show decode cL_law (957 + 5) = .ok (.iload_n 3, 1) from dqs dskL_law_64_13 dsaL_law_64_13 4 rfl)
theorem dL_law_963 : decode cL_law 963 = .ok (.bipush 7, 2) := (show decode cL_law (957 + 6) = .ok (.bipush 7, 2) from dqs dskL_law_64_13 dsaL_law_64_13 5 rfl)
theorem dL_law_965 : decode cL_law 965 = .ok (.iadd, 1) := (show decode cL_law (957 + 8) = .ok (.iadd, 1) from dqs dskL_law_64_13 dsaL_law_64_13 6 rfl)
theorem dL_law_966 : decode cL_law 966 = .ok (.iaload, 1) := (show decode cL_law (957 + 9) = .ok (.iaload, 1) from dqs dskL_law_64_13 dsaL_law_64_13 7 rfl)
theorem dL_law_967 : decode cL_law 967 = .ok (.aload_n 0, 1) := (show decode cL_law (957 + 10) = .ok (.aload_n 0, 1) from dqs dskL_law_64_13 dsaL_law_64_13 8 rfl)
theorem dL_law_968 : decode cL_law 968 = .ok (.iload_n 3, 1) := (show decode cL_law (957 + 11) = .ok (.iload_n 3, 1) from dqs dskL_law_64_13 dsaL_law_64_13 9 rfl)
theorem dL_law_969 : decode cL_law 969 = .ok (.bipush 8, 2) := (show decode cL_law (957 + 12) = .ok (.bipush 8, 2) from dqs dskL_law_64_13 dsaL_law_64_13 10 rfl)
theorem dL_law_971 : decode cL_law 971 = .ok (.iadd, 1) := (show decode cL_law (957 + 14) = .ok (.iadd, 1) from dqs dskL_law_64_13 dsaL_law_64_13 11 rfl)
theorem dL_law_972 : decode cL_law 972 = .ok (.iaload, 1) := (show decode cL_law (957 + 15) = .ok (.iaload, 1) from dqs dskL_law_64_13 dsaL_law_64_13 12 rfl)
theorem dL_law_973 : decode cL_law 973 = .ok (.invokevirtual 101, 3) := (show decode cL_law (957 + 16) = .ok (.invokevirtual 101, 3) from dqs dskL_law_64_13 dsaL_law_64_13 13 rfl)
theorem dL_law_976 : decode cL_law 976 = .ok (.pop, 1) := (show decode cL_law (957 + 19) = .ok (.pop, 1) from dqs dskL_law_64_13 dsaL_law_64_13 14 rfl)
theorem dL_law_977 : decode cL_law 977 = .ok (.goto 753, 3) := (show decode cL_law (957 + 20) = .ok (.goto 753, 3) from dqs dskL_law_64_13 dsaL_law_64_13 15 rfl)
theorem dL_law_980 : decode cL_law 980 = .ok (.aload_n 1, 1) := (show decode cL_law (957 + 23) = .ok (.aload_n 1, 1) from dqs dskL_law_64_13 dsaL_law_64_13 16 rfl)
theorem dL_law_981 : decode cL_law 981 = .ok (.aload_n 0, 1) := (show decode cL_law (957 + 24) = .ok (.aload_n 0, 1) from dqs dskL_law_64_13 dsaL_law_64_13 17 rfl)
theorem dL_law_982 : decode cL_law 982 = .ok (.iload_n 3, 1) := (show decode cL_law (957 + 25) = .ok (.iload_n 3, 1) from dqs dskL_law_64_13 dsaL_law_64_13 18 rfl)
theorem dL_law_983 : decode cL_law 983 = .ok (.iconst 1, 1) := (show decode cL_law (957 + 26) = .ok (.iconst 1, 1) from dqs dskL_law_64_13 dsaL_law_64_13 19 rfl)
theorem dL_law_984 : decode cL_law 984 = .ok (.iadd, 1) := (show decode cL_law (957 + 27) = .ok (.iadd, 1) from dqs dskL_law_64_13 dsaL_law_64_13 20 rfl)
theorem dL_law_985 : decode cL_law 985 = .ok (.iaload, 1) := (show decode cL_law (957 + 28) = .ok (.iaload, 1) from dqs dskL_law_64_13 dsaL_law_64_13 21 rfl)
theorem dL_law_986 : decode cL_law 986 = .ok (.aload_n 0, 1) := (show decode cL_law (957 + 29) = .ok (.aload_n 0, 1) from dqs dskL_law_64_13 dsaL_law_64_13 22 rfl)
theorem dL_law_987 : decode cL_law 987 = .ok (.iload_n 3, 1) := (show decode cL_law (957 + 30) = .ok (.iload_n 3, 1) from dqs dskL_law_64_13 dsaL_law_64_13 23 rfl)
theorem dL_law_988 : decode cL_law 988 = .ok (.iconst 2, 1) := (show decode cL_law (957 + 31) = .ok (.iconst 2, 1) from dqs dskL_law_64_13 dsaL_law_64_13 24 rfl)
theorem dL_law_989 : decode cL_law 989 = .ok (.iadd, 1) := (show decode cL_law (957 + 32) = .ok (.iadd, 1) from dqs dskL_law_64_13 dsaL_law_64_13 25 rfl)
theorem dL_law_990 : decode cL_law 990 = .ok (.iaload, 1) := (show decode cL_law (957 + 33) = .ok (.iaload, 1) from dqs dskL_law_64_13 dsaL_law_64_13 26 rfl)
theorem dL_law_991 : decode cL_law 991 = .ok (.invokevirtual 102, 3) := (show decode cL_law (957 + 34) = .ok (.invokevirtual 102, 3) from dqs dskL_law_64_13 dsaL_law_64_13 27 rfl)
theorem dL_law_994 : decode cL_law 994 = .ok (.pop, 1) := (show decode cL_law (957 + 37) = .ok (.pop, 1) from dqs dskL_law_64_13 dsaL_law_64_13 28 rfl)
theorem dL_law_995 : decode cL_law 995 = .ok (.aload_n 2, 1) := (show decode cL_law (957 + 38) = .ok (.aload_n 2, 1) from dqs dskL_law_64_13 dsaL_law_64_13 29 rfl)
theorem dL_law_996 : decode cL_law 996 = .ok (.aload_n 0, 1) := (show decode cL_law (957 + 39) = .ok (.aload_n 0, 1) from dqs dskL_law_64_13 dsaL_law_64_13 30 rfl)
theorem dL_law_997 : decode cL_law 997 = .ok (.iload_n 3, 1) := (show decode cL_law (957 + 40) = .ok (.iload_n 3, 1) from dqs dskL_law_64_13 dsaL_law_64_13 31 rfl)
theorem dL_law_998 : decode cL_law 998 = .ok (.iconst 1, 1) := (show decode cL_law (957 + 41) = .ok (.iconst 1, 1) from dqs dskL_law_64_13 dsaL_law_64_13 32 rfl)
theorem dL_law_999 : decode cL_law 999 = .ok (.iadd, 1) := (show decode cL_law (957 + 42) = .ok (.iadd, 1) from dqs dskL_law_64_13 dsaL_law_64_13 33 rfl)
theorem dL_law_1000 : decode cL_law 1000 = .ok (.iaload, 1) := (show decode cL_law (957 + 43) = .ok (.iaload, 1) from dqs dskL_law_64_13 dsaL_law_64_13 34 rfl)
theorem dL_law_1001 : decode cL_law 1001 = .ok (.aload_n 0, 1) := (show decode cL_law (957 + 44) = .ok (.aload_n 0, 1) from dqs dskL_law_64_13 dsaL_law_64_13 35 rfl)
theorem dL_law_1002 : decode cL_law 1002 = .ok (.iload_n 3, 1) := (show decode cL_law (957 + 45) = .ok (.iload_n 3, 1) from dqs dskL_law_64_13 dsaL_law_64_13 36 rfl)
theorem dL_law_1003 : decode cL_law 1003 = .ok (.iconst 2, 1) := (show decode cL_law (957 + 46) = .ok (.iconst 2, 1) from dqs dskL_law_64_13 dsaL_law_64_13 37 rfl)
theorem dL_law_1004 : decode cL_law 1004 = .ok (.iadd, 1) := (show decode cL_law (957 + 47) = .ok (.iadd, 1) from dqs dskL_law_64_13 dsaL_law_64_13 38 rfl)
theorem dL_law_1005 : decode cL_law 1005 = .ok (.iaload, 1) := (show decode cL_law (957 + 48) = .ok (.iaload, 1) from dqs dskL_law_64_13 dsaL_law_64_13 39 rfl)
theorem dL_law_1006 : decode cL_law 1006 = .ok (.invokevirtual 105, 3) := (show decode cL_law (957 + 49) = .ok (.invokevirtual 105, 3) from dqs dskL_law_64_13 dsaL_law_64_13 40 rfl)
theorem dL_law_1009 : decode cL_law 1009 = .ok (.pop, 1) := (show decode cL_law (957 + 52) = .ok (.pop, 1) from dqs dskL_law_64_13 dsaL_law_64_13 41 rfl)
theorem dL_law_1010 : decode cL_law 1010 = .ok (.goto 720, 3) := (show decode cL_law (957 + 53) = .ok (.goto 720, 3) from dqs dskL_law_64_13 dsaL_law_64_13 42 rfl)
theorem dL_law_1013 : decode cL_law 1013 = .ok (.aload_n 1, 1) := (show decode cL_law (957 + 56) = .ok (.aload_n 1, 1) from dqs dskL_law_64_13 dsaL_law_64_13 43 rfl)
theorem dL_law_1014 : decode cL_law 1014 = .ok (.aload_n 0, 1) := (show decode cL_law (957 + 57) = .ok (.aload_n 0, 1) from dqs dskL_law_64_13 dsaL_law_64_13 44 rfl)
theorem dL_law_1015 : decode cL_law 1015 = .ok (.iload_n 3, 1) := (show decode cL_law (957 + 58) = .ok (.iload_n 3, 1) from dqs dskL_law_64_13 dsaL_law_64_13 45 rfl)
theorem dL_law_1016 : decode cL_law 1016 = .ok (.iconst 1, 1) := (show decode cL_law (957 + 59) = .ok (.iconst 1, 1) from dqs dskL_law_64_13 dsaL_law_64_13 46 rfl)
theorem dL_law_1017 : decode cL_law 1017 = .ok (.iadd, 1) := (show decode cL_law (957 + 60) = .ok (.iadd, 1) from dqs dskL_law_64_13 dsaL_law_64_13 47 rfl)
theorem dL_law_1018 : decode cL_law 1018 = .ok (.iaload, 1) := (show decode cL_law (957 + 61) = .ok (.iaload, 1) from dqs dskL_law_64_13 dsaL_law_64_13 48 rfl)
theorem dL_law_1019 : decode cL_law 1019 = .ok (.aload_n 0, 1) := (show decode cL_law (957 + 62) = .ok (.aload_n 0, 1) from dqs dskL_law_64_13 dsaL_law_64_13 49 rfl)
theorem dL_law_1020 : decode cL_law 1020 = .ok (.iload_n 3, 1) := (show decode cL_law (957 + 63) = .ok (.iload_n 3, 1) from dqs dskL_law_64_13 dsaL_law_64_13 50 rfl)
def dslL_law_64_14 : List UInt8 := [0x05, 0x60, 0x2e, 0xb6, 0x00, 0x6a, 0x57, 0x2c, 0x2a, 0x1d, 0x04, 0x60, 0x2e, 0x2a, 0x1d, 0x05, 0x60, 0x2e, 0xb6, 0x00, 0x6d, 0x57, 0xa7, 0x02, 0xaf, 0x2b, 0x2a, 0x1d, 0x04, 0x60, 0x2e, 0x2a, 0x1d, 0x05, 0x60, 0x2e, 0x2a, 0x1d, 0x06, 0x60, 0x2e, 0x2a, 0x1d, 0x07, 0x60, 0x2e, 0x2a, 0x1d, 0x08, 0x60, 0x2e, 0x2a, 0x1d, 0x10, 0x06, 0x60, 0x2e, 0xb6, 0x00, 0x6e, 0x57, 0x2c, 0x2a, 0x1d]
theorem dskL_law_64_14 : (cL_law.data.toList.drop 1021).take 64 = dslL_law_64_14 := by decide +kernel
def dstL_law_64_14 : List (Nat × Jvm.ClassFile.Instr × Nat) := [(0, .iconst 2, 1), (1, .iadd, 1), (2, .iaload, 1), (3, .invokevirtual 106, 3), (6, .pop, 1), (7, .aload_n 2, 1), (8, .aload_n 0, 1), (9, .iload_n 3, 1), (10, .iconst 1, 1), (11, .iadd, 1), (12, .iaload, 1), (13, .aload_n 0, 1), (14, .iload_n 3, 1), (15, .iconst 2, 1), (16, .iadd, 1), (17, .iaload, 1), (18, .invokevirtual 109, 3), (21, .pop, 1), (22, .goto 687, 3), (25, .aload_n 1, 1), (26, .aload_n 0, 1), (27, .iload_n 3, 1), (28, .iconst 1, 1), (29, .iadd, 1), (30, .iaload, 1), (31, .aload_n 0, 1), (32, .iload_n 3, 1), (33, .iconst 2, 1), (34, .iadd, 1), (35, .iaload, 1), (36, .aload_n 0, 1), (37, .iload_n 3, 1), (38, .iconst 3, 1), (39, .iadd, 1), (40, .iaload, 1), (41, .aload_n 0, 1), (42, .iload_n 3, 1), (43, .iconst 4, 1), (44, .iadd, 1), (45, .iaload, 1), (46, .aload_n 0, 1), (47, .iload_n 3, 1), (48, .iconst 5, 1), (49, .iadd, 1), (50, .iaload, 1), (51, .aload_n 0, 1), (52, .iload_n 3, 1), (53, .bipush 6, 2), (55, .iadd, 1), (56, .iaload, 1), (57, .invokevirtual 110, 3), (60, .pop, 1), (61, .aload_n 2, 1), (62, .aload_n 0, 1), (63, .iload_n 3, 1)]
theorem dsaL_law_64_14 : dstL_law_64_14.all (dqs1 ⟨⟨dslL_law_64_14⟩⟩ 1021) = true := by decide +kernel
theorem dL_law_1021 : decode cL_law 1021 = .ok (.iconst 2, 1) := (show decode cL_law (1021 + 0) = .ok (.iconst 2, 1) from dqs dskL_law_64_14 dsaL_law_64_14 0 rfl)
theorem dL_law_1022 : decode cL_law 1022 = .ok (.iadd, 1) := (show decode cL_law (1021 + 1) = .ok (.iadd, 1) from dqs dskL_law_64_14 dsaL_law_64_14 1 rfl)
theorem dL_law_1023 : decode cL_law 1023 = .ok (.iaload, 1) := (show decode cL_law (1021 + 2) = .ok (.iaload, 1) from dqs dskL_law_64_14 dsaL_law_64_14 2 rfl)
theorem dL_law_1024 : decode cL_law 1024 = .ok (.invokevirtual 106, 3) := (show decode cL_law (1021 + 3) = .ok (.invokevirtual 106, 3) from dqs dskL_law_64_14 dsaL_law_64_14 3 rfl)
theorem dL_law_1027 : decode cL_law 1027 = .ok (.pop, 1) := (show decode cL_law (1021 + 6) = .ok (.pop, 1) from dqs dskL_law_64_14 dsaL_law_64_14 4 rfl)
theorem dL_law_1028 : decode cL_law 1028 = .ok (.aload_n 2, 1) := (show decode cL_law (1021 + 7) = .ok (.aload_n 2, 1) from dqs dskL_law_64_14 dsaL_law_64_14 5 rfl)
theorem dL_law_1029 : decode cL_law 1029 = .ok (.aload_n 0, 1) := (show decode cL_law (1021 + 8) = .ok (.aload_n 0, 1) from dqs dskL_law_64_14 dsaL_law_64_14 6 rfl)
theorem dL_law_1030 : decode cL_law 1030 = .ok (.iload_n 3, 1) := (show decode cL_law (1021 + 9) = .ok (.iload_n 3, 1) from dqs dskL_law_64_14 dsaL_law_64_14 7 rfl)
theorem dL_law_1031 : decode cL_law 1031 = .ok (.iconst 1, 1) := (show decode cL_law (1021 + 10) = .ok (.iconst 1, 1) from dqs dskL_law_64_14 dsaL_law_64_14 8 rfl)
theorem dL_law_1032 : decode cL_law 1032 = .ok (.iadd, 1) := (show decode cL_law (1021 + 11) = .ok (.iadd, 1) from dqs dskL_law_64_14 dsaL_law_64_14 9 rfl)
theorem dL_law_1033 : decode cL_law 1033 = .ok (.iaload, 1) := (show decode cL_law (1021 + 12) = .ok (.iaload, 1) from dqs dskL_law_64_14 dsaL_law_64_14 10 rfl)
theorem dL_law_1034 : decode cL_law 1034 = .ok (.aload_n 0, 1) := (show decode cL_law (1021 + 13) = .ok (.aload_n 0, 1) from dqs dskL_law_64_14 dsaL_law_64_14 11 rfl)
theorem dL_law_1035 : decode cL_law 1035 = .ok (.iload_n 3, 1) := (show decode cL_law (1021 + 14) = .ok (.iload_n 3, 1) from dqs dskL_law_64_14 dsaL_law_64_14 12 rfl)
theorem dL_law_1036 : decode cL_law 1036 = .ok (.iconst 2, 1) := (show decode cL_law (1021 + 15) = .ok (.iconst 2, 1) from dqs dskL_law_64_14 dsaL_law_64_14 13 rfl)
theorem dL_law_1037 : decode cL_law 1037 = .ok (.iadd, 1) := (show decode cL_law (1021 + 16) = .ok (.iadd, 1) from dqs dskL_law_64_14 dsaL_law_64_14 14 rfl)
theorem dL_law_1038 : decode cL_law 1038 = .ok (.iaload, 1) := (show decode cL_law (1021 + 17) = .ok (.iaload, 1) from dqs dskL_law_64_14 dsaL_law_64_14 15 rfl)
theorem dL_law_1039 : decode cL_law 1039 = .ok (.invokevirtual 109, 3) := (show decode cL_law (1021 + 18) = .ok (.invokevirtual 109, 3) from dqs dskL_law_64_14 dsaL_law_64_14 16 rfl)
theorem dL_law_1042 : decode cL_law 1042 = .ok (.pop, 1) := (show decode cL_law (1021 + 21) = .ok (.pop, 1) from dqs dskL_law_64_14 dsaL_law_64_14 17 rfl)
theorem dL_law_1043 : decode cL_law 1043 = .ok (.goto 687, 3) := (show decode cL_law (1021 + 22) = .ok (.goto 687, 3) from dqs dskL_law_64_14 dsaL_law_64_14 18 rfl)
theorem dL_law_1046 : decode cL_law 1046 = .ok (.aload_n 1, 1) := (show decode cL_law (1021 + 25) = .ok (.aload_n 1, 1) from dqs dskL_law_64_14 dsaL_law_64_14 19 rfl)
theorem dL_law_1047 : decode cL_law 1047 = .ok (.aload_n 0, 1) := (show decode cL_law (1021 + 26) = .ok (.aload_n 0, 1) from dqs dskL_law_64_14 dsaL_law_64_14 20 rfl)
theorem dL_law_1048 : decode cL_law 1048 = .ok (.iload_n 3, 1) := (show decode cL_law (1021 + 27) = .ok (.iload_n 3, 1) from dqs dskL_law_64_14 dsaL_law_64_14 21 rfl)
theorem dL_law_1049 : decode cL_law 1049 = .ok (.iconst 1, 1) := (show decode cL_law (1021 + 28) = .ok (.iconst 1, 1) from dqs dskL_law_64_14 dsaL_law_64_14 22 rfl)
theorem dL_law_1050 : decode cL_law 1050 = .ok (.iadd, 1) := (show decode cL_law (1021 + 29) = .ok (.iadd, 1) from dqs dskL_law_64_14 dsaL_law_64_14 23 rfl)
theorem dL_law_1051 : decode cL_law 1051 = .ok (.iaload, 1) := (show decode cL_law (1021 + 30) = .ok (.iaload, 1) from dqs dskL_law_64_14 dsaL_law_64_14 24 rfl)
theorem dL_law_1052 : decode cL_law 1052 = .ok (.aload_n 0, 1) := (show decode cL_law (1021 + 31) = .ok (.aload_n 0, 1) from dqs dskL_law_64_14 dsaL_law_64_14 25 rfl)
theorem dL_law_1053 : decode cL_law 1053 = .ok (.iload_n 3, 1) := (show decode cL_law (1021 + 32) = .ok (.iload_n 3, 1) from dqs dskL_law_64_14 dsaL_law_64_14 26 rfl)
theorem dL_law_1054 : decode cL_law 1054 = .ok (.iconst 2, 1) := (show decode cL_law (1021 + 33) = .ok (.iconst 2, 1) from dqs dskL_law_64_14 dsaL_law_64_14 27 rfl)
theorem dL_law_1055 : decode cL_law 1055 = .ok (.iadd, 1) := (show decode cL_law (1021 + 34) = .ok (.iadd, 1) from dqs dskL_law_64_14 dsaL_law_64_14 28 rfl)
theorem dL_law_1056 : decode cL_law 1056 = .ok (.iaload, 1) := (show decode cL_law (1021 + 35) = .ok (.iaload, 1) from dqs dskL_law_64_14 dsaL_law_64_14 29 rfl)
theorem dL_law_1057 : decode cL_law 1057 = .ok (.aload_n 0, 1) := (show decode cL_law (1021 + 36) = .ok (.aload_n 0, 1) from dqs dskL_law_64_14 dsaL_law_64_14 30 rfl)
theorem dL_law_1058 : decode cL_law 1058 = .ok (.iload_n 3, 1) := (show decode cL_law (1021 + 37) = .ok (.iload_n 3, 1) from dqs dskL_law_64_14 dsaL_law_64_14 31 rfl)
theorem dL_law_1059 : decode cL_law 1059 = .ok (.iconst 3, 1) := (show decode cL_law (1021 + 38) = .ok (.iconst 3, 1) from dqs dskL_law_64_14 dsaL_law_64_14 32 rfl)
theorem dL_law_1060 : decode cL_law 1060 = .ok (.iadd, 1) := (show decode cL_law (1021 + 39) = .ok (.iadd, 1) from dqs dskL_law_64_14 dsaL_law_64_14 33 rfl)
theorem dL_law_1061 : decode cL_law 1061 = .ok (.iaload, 1) := (show decode cL_law (1021 + 40) = .ok (.iaload, 1) from dqs dskL_law_64_14 dsaL_law_64_14 34 rfl)
theorem dL_law_1062 : decode cL_law 1062 = .ok (.aload_n 0, 1) := (show decode cL_law (1021 + 41) = .ok (.aload_n 0, 1) from dqs dskL_law_64_14 dsaL_law_64_14 35 rfl)
theorem dL_law_1063 : decode cL_law 1063 = .ok (.iload_n 3, 1) := (show decode cL_law (1021 + 42) = .ok (.iload_n 3, 1) from dqs dskL_law_64_14 dsaL_law_64_14 36 rfl)
theorem dL_law_1064 : decode cL_law 1064 = .ok (.iconst 4, 1) := (show decode cL_law (1021 + 43) = .ok (.iconst 4, 1) from dqs dskL_law_64_14 dsaL_law_64_14 37 rfl)
theorem dL_law_1065 : decode cL_law 1065 = .ok (.iadd, 1) := (show decode cL_law (1021 + 44) = .ok (.iadd, 1) from dqs dskL_law_64_14 dsaL_law_64_14 38 rfl)
theorem dL_law_1066 : decode cL_law 1066 = .ok (.iaload, 1) := (show decode cL_law (1021 + 45) = .ok (.iaload, 1) from dqs dskL_law_64_14 dsaL_law_64_14 39 rfl)
theorem dL_law_1067 : decode cL_law 1067 = .ok (.aload_n 0, 1) := (show decode cL_law (1021 + 46) = .ok (.aload_n 0, 1) from dqs dskL_law_64_14 dsaL_law_64_14 40 rfl)
theorem dL_law_1068 : decode cL_law 1068 = .ok (.iload_n 3, 1) := (show decode cL_law (1021 + 47) = .ok (.iload_n 3, 1) from dqs dskL_law_64_14 dsaL_law_64_14 41 rfl)
theorem dL_law_1069 : decode cL_law 1069 = .ok (.iconst 5, 1) := (show decode cL_law (1021 + 48) = .ok (.iconst 5, 1) from dqs dskL_law_64_14 dsaL_law_64_14 42 rfl)
theorem dL_law_1070 : decode cL_law 1070 = .ok (.iadd, 1) := (show decode cL_law (1021 + 49) = .ok (.iadd, 1) from dqs dskL_law_64_14 dsaL_law_64_14 43 rfl)
theorem dL_law_1071 : decode cL_law 1071 = .ok (.iaload, 1) := (show decode cL_law (1021 + 50) = .ok (.iaload, 1) from dqs dskL_law_64_14 dsaL_law_64_14 44 rfl)
theorem dL_law_1072 : decode cL_law 1072 = .ok (.aload_n 0, 1) := (show decode cL_law (1021 + 51) = .ok (.aload_n 0, 1) from dqs dskL_law_64_14 dsaL_law_64_14 45 rfl)
theorem dL_law_1073 : decode cL_law 1073 = .ok (.iload_n 3, 1) := (show decode cL_law (1021 + 52) = .ok (.iload_n 3, 1) from dqs dskL_law_64_14 dsaL_law_64_14 46 rfl)
theorem dL_law_1074 : decode cL_law 1074 = .ok (.bipush 6, 2) := (show decode cL_law (1021 + 53) = .ok (.bipush 6, 2) from dqs dskL_law_64_14 dsaL_law_64_14 47 rfl)
theorem dL_law_1076 : decode cL_law 1076 = .ok (.iadd, 1) := (show decode cL_law (1021 + 55) = .ok (.iadd, 1) from dqs dskL_law_64_14 dsaL_law_64_14 48 rfl)
theorem dL_law_1077 : decode cL_law 1077 = .ok (.iaload, 1) := (show decode cL_law (1021 + 56) = .ok (.iaload, 1) from dqs dskL_law_64_14 dsaL_law_64_14 49 rfl)
theorem dL_law_1078 : decode cL_law 1078 = .ok (.invokevirtual 110, 3) := (show decode cL_law (1021 + 57) = .ok (.invokevirtual 110, 3) from dqs dskL_law_64_14 dsaL_law_64_14 50 rfl)
theorem dL_law_1081 : decode cL_law 1081 = .ok (.pop, 1) := (show decode cL_law (1021 + 60) = .ok (.pop, 1) from dqs dskL_law_64_14 dsaL_law_64_14 51 rfl)
theorem dL_law_1082 : decode cL_law 1082 = .ok (.aload_n 2, 1) := (show decode cL_law (1021 + 61) = .ok (.aload_n 2, 1) from dqs dskL_law_64_14 dsaL_law_64_14 52 rfl)
theorem dL_law_1083 : decode cL_law 1083 = .ok (.aload_n 0, 1) := (show decode cL_law (1021 + 62) = .ok (.aload_n 0, 1) from dqs dskL_law_64_14 dsaL_law_64_14 53 rfl)
theorem dL_law_1084 : decode cL_law 1084 = .ok (.iload_n 3, 1) := (show decode cL_law (1021 + 63) = .ok (.iload_n 3, 1) from dqs dskL_law_64_14 dsaL_law_64_14 54 rfl)
def dslL_law_64_15 : List UInt8 := [0x04, 0x60, 0x2e, 0x2a, 0x1d, 0x05, 0x60, 0x2e, 0x2a, 0x1d, 0x06, 0x60, 0x2e, 0x2a, 0x1d, 0x07, 0x60, 0x2e, 0x2a, 0x1d, 0x08, 0x60, 0x2e, 0x2a, 0x1d, 0x10, 0x06, 0x60, 0x2e, 0xb6, 0x00, 0x71, 0x57, 0xa7, 0x02, 0x64, 0x2b, 0x2a, 0x1d, 0x04, 0x60, 0x2e, 0x2a, 0x1d, 0x05, 0x60, 0x2e, 0x2a, 0x1d, 0x06, 0x60, 0x2e, 0x2a, 0x1d, 0x07, 0x60, 0x2e, 0x2a, 0x1d, 0x08, 0x60, 0x2e, 0x2a, 0x1d]
theorem dskL_law_64_15 : (cL_law.data.toList.drop 1085).take 64 = dslL_law_64_15 := by decide +kernel
def dstL_law_64_15 : List (Nat × Jvm.ClassFile.Instr × Nat) := [(0, .iconst 1, 1), (1, .iadd, 1), (2, .iaload, 1), (3, .aload_n 0, 1), (4, .iload_n 3, 1), (5, .iconst 2, 1), (6, .iadd, 1), (7, .iaload, 1), (8, .aload_n 0, 1), (9, .iload_n 3, 1), (10, .iconst 3, 1), (11, .iadd, 1), (12, .iaload, 1), (13, .aload_n 0, 1), (14, .iload_n 3, 1), (15, .iconst 4, 1), (16, .iadd, 1), (17, .iaload, 1), (18, .aload_n 0, 1), (19, .iload_n 3, 1), (20, .iconst 5, 1), (21, .iadd, 1), (22, .iaload, 1), (23, .aload_n 0, 1), (24, .iload_n 3, 1), (25, .bipush 6, 2), (27, .iadd, 1), (28, .iaload, 1), (29, .invokevirtual 113, 3), (32, .pop, 1), (33, .goto 612, 3), (36, .aload_n 1, 1), (37, .aload_n 0, 1), (38, .iload_n 3, 1), (39, .iconst 1, 1), (40, .iadd, 1), (41, .iaload, 1), (42, .aload_n 0, 1), (43, .iload_n 3, 1), (44, .iconst 2, 1), (45, .iadd, 1), (46, .iaload, 1), (47, .aload_n 0, 1), (48, .iload_n 3, 1), (49, .iconst 3, 1), (50, .iadd, 1), (51, .iaload, 1), (52, .aload_n 0, 1), (53, .iload_n 3, 1), (54, .iconst 4, 1), (55, .iadd, 1), (56, .iaload, 1), (57, .aload_n 0, 1), (58, .iload_n 3, 1), (59, .iconst 5, 1), (60, .iadd, 1), (61, .iaload, 1), (62, .aload_n 0, 1), (63, .iload_n 3, 1)]
theorem dsaL_law_64_15 : dstL_law_64_15.all (dqs1 ⟨⟨dslL_law_64_15⟩⟩ 1085) = true := by decide +kernel
theorem dL_law_1085 : decode cL_law 1085 = .ok (.iconst 1, 1) := (show decode cL_law (1085 + 0) = .ok (.iconst 1, 1) from dqs dskL_law_64_15 dsaL_law_64_15 0 rfl)
theorem dL_law_1086 : decode cL_law 1086 = .ok (.iadd, 1) := (show decode cL_law (1085 + 1) = .ok (.iadd, 1) from dqs dskL_law_64_15 dsaL_law_64_15 1 rfl)
theorem dL_law_1087 : decode cL_law 1087 = .ok (.iaload, 1) := (show decode cL_law (1085 + 2) = .ok (.iaload, 1) from dqs dskL_law_64_15 dsaL_law_64_15 2 rfl)
theorem dL_law_1088 : decode cL_law 1088 = .ok (.aload_n 0, 1) := (show decode cL_law (1085 + 3) = .ok (.aload_n 0, 1) from dqs dskL_law_64_15 dsaL_law_64_15 3 rfl)
theorem dL_law_1089 : decode cL_law 1089 = .ok (.iload_n 3, 1) := (show decode cL_law (1085 + 4) = .ok (.iload_n 3, 1) from dqs dskL_law_64_15 dsaL_law_64_15 4 rfl)
theorem dL_law_1090 : decode cL_law 1090 = .ok (.iconst 2, 1) := (show decode cL_law (1085 + 5) = .ok (.iconst 2, 1) from dqs dskL_law_64_15 dsaL_law_64_15 5 rfl)
theorem dL_law_1091 : decode cL_law 1091 = .ok (.iadd, 1) := (show decode cL_law (1085 + 6) = .ok (.iadd, 1) from dqs dskL_law_64_15 dsaL_law_64_15 6 rfl)
theorem dL_law_1092 : decode cL_law 1092 = .ok (.iaload, 1) := (show decode cL_law (1085 + 7) = .ok (.iaload, 1) from dqs dskL_law_64_15 dsaL_law_64_15 7 rfl)
theorem dL_law_1093 : decode cL_law 1093 = .ok (.aload_n 0, 1) := (show decode cL_law (1085 + 8) = .ok (.aload_n 0, 1) from dqs dskL_law_64_15 dsaL_law_64_15 8 rfl)
theorem dL_law_1094 : decode cL_law 1094 = .ok (.iload_n 3, 1) := (show decode cL_law (1085 + 9) = .ok (.iload_n 3, 1) from dqs dskL_law_64_15 dsaL_law_64_15 9 rfl)
theorem dL_law_1095 : decode cL_law 1095 = .ok (.iconst 3, 1) := (show decode cL_law (1085 + 10) = .ok (.iconst 3, 1) from dqs dskL_law_64_15 dsaL_law_64_15 10 rfl)
theorem dL_law_1096 : decode cL_law 1096 = .ok (.iadd, 1) := (show decode cL_law (1085 + 11) = .ok (.iadd, 1) from dqs dskL_law_64_15 dsaL_law_64_15 11 rfl)
theorem dL_law_1097 : decode cL_law 1097 = .ok (.iaload, 1) := (show decode cL_law (1085 + 12) = .ok (.iaload, 1) from dqs dskL_law_64_15 dsaL_law_64_15 12 rfl)
theorem dL_law_1098 : decode cL_law 1098 = .ok (.aload_n 0, 1) := (show decode cL_law (1085 + 13) = .ok (.aload_n 0, 1) from dqs dskL_law_64_15 dsaL_law_64_15 13 rfl)
theorem dL_law_1099 : decode cL_law 1099 = .ok (.iload_n 3, 1) := (show decode cL_law (1085 + 14) = .ok (.iload_n 3, 1) from dqs dskL_law_64_15 dsaL_law_64_15 14 rfl)
theorem dL_law_1100 : decode cL_law 1100 = .ok (.iconst 4, 1) := (show decode cL_law (1085 + 15) = .ok (.iconst 4, 1) from dqs dskL_law_64_15 dsaL_law_64_15 15 rfl)
theorem dL_law_1101 : decode cL_law 1101 = .ok (.iadd, 1) := (show decode cL_law (1085 + 16) = .ok (.iadd, 1) from dqs dskL_law_64_15 dsaL_law_64_15 16 rfl)
theorem dL_law_1102 : decode cL_law 1102 = .ok (.iaload, 1) := (show decode cL_law (1085 + 17) = .ok (.iaload, 1) from dqs dskL_law_64_15 dsaL_law_64_15 17 rfl)
theorem dL_law_1103 : decode cL_law 1103 = .ok (.aload_n 0, 1) := (show decode cL_law (1085 + 18) = .ok (.aload_n 0, 1) from dqs dskL_law_64_15 dsaL_law_64_15 18 rfl)
theorem dL_law_1104 : decode cL_law 1104 = .ok (.iload_n 3, 1) := (show decode cL_law (1085 + 19) = .ok (.iload_n 3, 1) from dqs dskL_law_64_15 dsaL_law_64_15 19 rfl)
theorem dL_law_1105 : decode cL_law 1105 = .ok (.iconst 5, 1) := (show decode cL_law (1085 + 20) = .ok (.iconst 5, 1) from dqs dskL_law_64_15 dsaL_law_64_15 20 rfl)
theorem dL_law_1106 : decode cL_law 1106 = .ok (.iadd, 1) := (show decode cL_law (1085 + 21) = .ok (.iadd, 1) from dqs dskL_law_64_15 dsaL_law_64_15 21 rfl)
theorem dL_law_1107 : decode cL_law 1107 = .ok (.iaload, 1) := (show decode cL_law (1085 + 22) = .ok (.iaload, 1) from dqs dskL_law_64_15 dsaL_law_64_15 22 rfl)
theorem dL_law_1108 : decode cL_law 1108 = .ok (.aload_n 0, 1) := (show decode cL_law (1085 + 23) = .ok (.aload_n 0, 1) from dqs dskL_law_64_15 dsaL_law_64_15 23 rfl)
theorem dL_law_1109 : decode cL_law 1109 = .ok (.iload_n 3, 1) := (show decode cL_law (1085 + 24) = .ok (.iload_n 3, 1) from dqs dskL_law_64_15 dsaL_law_64_15 24 rfl)
theorem dL_law_1110 : decode cL_law 1110 = .ok (.bipush 6, 2) := (show decode cL_law (1085 + 25) = .ok (.bipush 6, 2) from dqs dskL_law_64_15 dsaL_law_64_15 25 rfl)
theorem dL_law_1112 : decode cL_law 1112 = .ok (.iadd, 1) := (show decode cL_law (1085 + 27) = .ok (.iadd, 1) from dqs dskL_law_64_15 dsaL_law_64_15 26 rfl)
theorem dL_law_1113 : decode cL_law 1113 = .ok (.iaload, 1) := (show decode cL_law (1085 + 28) = .ok (.iaload, 1) from dqs dskL_law_64_15 dsaL_law_64_15 27 rfl)
theorem dL_law_1114 : decode cL_law 1114 = .ok (.invokevirtual 113, 3) := (show decode cL_law (1085 + 29) = .ok (.invokevirtual 113, 3) from dqs dskL_law_64_15 dsaL_law_64_15 28 rfl)
theorem dL_law_1117 : decode cL_law 1117 = .ok (.pop, 1) := (show decode cL_law (1085 + 32) = .ok (.pop, 1) from dqs dskL_law_64_15 dsaL_law_64_15 29 rfl)
theorem dL_law_1118 : decode cL_law 1118 = .ok (.goto 612, 3) := (show decode cL_law (1085 + 33) = .ok (.goto 612, 3) from dqs dskL_law_64_15 dsaL_law_64_15 30 rfl)
theorem dL_law_1121 : decode cL_law 1121 = .ok (.aload_n 1, 1) := (show decode cL_law (1085 + 36) = .ok (.aload_n 1, 1) from dqs dskL_law_64_15 dsaL_law_64_15 31 rfl)
theorem dL_law_1122 : decode cL_law 1122 = .ok (.aload_n 0, 1) := (show decode cL_law (1085 + 37) = .ok (.aload_n 0, 1) from dqs dskL_law_64_15 dsaL_law_64_15 32 rfl)
theorem dL_law_1123 : decode cL_law 1123 = .ok (.iload_n 3, 1) := (show decode cL_law (1085 + 38) = .ok (.iload_n 3, 1) from dqs dskL_law_64_15 dsaL_law_64_15 33 rfl)
theorem dL_law_1124 : decode cL_law 1124 = .ok (.iconst 1, 1) := (show decode cL_law (1085 + 39) = .ok (.iconst 1, 1) from dqs dskL_law_64_15 dsaL_law_64_15 34 rfl)
theorem dL_law_1125 : decode cL_law 1125 = .ok (.iadd, 1) := (show decode cL_law (1085 + 40) = .ok (.iadd, 1) from dqs dskL_law_64_15 dsaL_law_64_15 35 rfl)
theorem dL_law_1126 : decode cL_law 1126 = .ok (.iaload, 1) := (show decode cL_law (1085 + 41) = .ok (.iaload, 1) from dqs dskL_law_64_15 dsaL_law_64_15 36 rfl)
theorem dL_law_1127 : decode cL_law 1127 = .ok (.aload_n 0, 1) := (show decode cL_law (1085 + 42) = .ok (.aload_n 0, 1) from dqs dskL_law_64_15 dsaL_law_64_15 37 rfl)
theorem dL_law_1128 : decode cL_law 1128 = .ok (.iload_n 3, 1) := (show decode cL_law (1085 + 43) = .ok (.iload_n 3, 1) from dqs dskL_law_64_15 dsaL_law_64_15 38 rfl)
theorem dL_law_1129 : decode cL_law 1129 = .ok (.iconst 2, 1) := (show decode cL_law (1085 + 44) = .ok (.iconst 2, 1) from dqs dskL_law_64_15 dsaL_law_64_15 39 rfl)
theorem dL_law_1130 : decode cL_law 1130 = .ok (.iadd, 1) := (show decode cL_law (1085 + 45) = .ok (.iadd, 1) from dqs dskL_law_64_15 dsaL_law_64_15 40 rfl)
theorem dL_law_1131 : decode cL_law 1131 = .ok (.iaload, 1) := (show decode cL_law (1085 + 46) = .ok (.iaload, 1) from dqs dskL_law_64_15 dsaL_law_64_15 41 rfl)
theorem dL_law_1132 : decode cL_law 1132 = .ok (.aload_n 0, 1) := (show decode cL_law (1085 + 47) = .ok (.aload_n 0, 1) from dqs dskL_law_64_15 dsaL_law_64_15 42 rfl)
theorem dL_law_1133 : decode cL_law 1133 = .ok (.iload_n 3, 1) := (show decode cL_law (1085 + 48) = .ok (.iload_n 3, 1) from dqs dskL_law_64_15 dsaL_law_64_15 43 rfl)
theorem dL_law_1134 : decode cL_law 1134 = .ok (.iconst 3, 1) := (show decode cL_law (1085 + 49) = .ok (.iconst 3, 1) from dqs dskL_law_64_15 dsaL_law_64_15 44 rfl)
theorem dL_law_1135 : decode cL_law 1135 = .ok (.iadd, 1) := (show decode cL_law (1085 + 50) = .ok (.iadd, 1) from dqs dskL_law_64_15 dsaL_law_64_15 45 rfl)
theorem dL_law_1136 : decode cL_law 1136 = .ok (.iaload, 1) := (show decode cL_law (1085 + 51) = .ok (.iaload, 1) from dqs dskL_law_64_15 dsaL_law_64_15 46 rfl)
theorem dL_law_1137 : decode cL_law 1137 = .ok (.aload_n 0, 1) := (show decode cL_law (1085 + 52) = .ok (.aload_n 0, 1) from dqs dskL_law_64_15 dsaL_law_64_15 47 rfl)
theorem dL_law_1138 : decode cL_law 1138 = .ok (.iload_n 3, 1) := (show decode cL_law (1085 + 53) = .ok (.iload_n 3, 1) from dqs dskL_law_64_15 dsaL_law_64_15 48 rfl)
theorem dL_law_1139 : decode cL_law 1139 = .ok (.iconst 4, 1) := (show decode cL_law (1085 + 54) = .ok (.iconst 4, 1) from dqs dskL_law_64_15 dsaL_law_64_15 49 rfl)
theorem dL_law_1140 : decode cL_law 1140 = .ok (.iadd, 1) := (show decode cL_law (1085 + 55) = .ok (.iadd, 1) from dqs dskL_law_64_15 dsaL_law_64_15 50 rfl)
theorem dL_law_1141 : decode cL_law 1141 = .ok (.iaload, 1) := (show decode cL_law (1085 + 56) = .ok (.iaload, 1) from dqs dskL_law_64_15 dsaL_law_64_15 51 rfl)
theorem dL_law_1142 : decode cL_law 1142 = .ok (.aload_n 0, 1) := (show decode cL_law (1085 + 57) = .ok (.aload_n 0, 1) from dqs dskL_law_64_15 dsaL_law_64_15 52 rfl)
theorem dL_law_1143 : decode cL_law 1143 = .ok (.iload_n 3, 1) := (show decode cL_law (1085 + 58) = .ok (.iload_n 3, 1) from dqs dskL_law_64_15 dsaL_law_64_15 53 rfl)
theorem dL_law_1144 : decode cL_law 1144 = .ok (.iconst 5, 1) := (show decode cL_law (1085 + 59) = .ok (.iconst 5, 1) from dqs dskL_law_64_15 dsaL_law_64_15 54 rfl)
theorem dL_law_1145 : decode cL_law 1145 = .ok (.iadd, 1) := (show decode cL_law (1085 + 60) = .ok (.iadd, 1) from dqs dskL_law_64_15 dsaL_law_64_15 55 rfl)
theorem dL_law_1146 : decode cL_law 1146 = .ok (.iaload, 1) := (show decode cL_law (1085 + 61) = .ok (.iaload, 1) from dqs dskL_law_64_15 dsaL_law_64_15 56 rfl)
theorem dL_law_1147 : decode cL_law 1147 = .ok (.aload_n 0, 1) := (show decode cL_law (1085 + 62) = .ok (.aload_n 0, 1) from dqs dskL_law_64_15 dsaL_law_64_15 57 rfl)
theorem dL_law_1148 : decode cL_law 1148 = .ok (.iload_n 3, 1) := (show decode cL_law (1085 + 63) = .ok (.iload_n 3, 1) from dqs dskL_law_64_15 dsaL_law_64_15 58 rfl)
def dslL_law_64_16 : List UInt8 := [0x10, 0x06, 0x60, 0x2e, 0x2a, 0x1d, 0x10, 0x07, 0x60, 0x2e, 0x2a, 0x1d, 0x10, 0x08, 0x60, 0x2e, 0x2a, 0x1d, 0x10, 0x09, 0x60, 0x2e, 0xb6, 0x00, 0x72, 0x57, 0x2c, 0x2a, 0x1d, 0x04, 0x60, 0x2e, 0x2a, 0x1d, 0x05, 0x60, 0x2e, 0x2a, 0x1d, 0x06, 0x60, 0x2e, 0x2a, 0x1d, 0x07, 0x60, 0x2e, 0x2a, 0x1d, 0x08, 0x60, 0x2e, 0x2a, 0x1d, 0x10, 0x06, 0x60, 0x2e, 0x2a, 0x1d, 0x10, 0x07, 0x60, 0x2e]
theorem dskL_law_64_16 : (cL_law.data.toList.drop 1149).take 64 = dslL_law_64_16 := by decide +kernel
def dstL_law_64_16 : List (Nat × Jvm.ClassFile.Instr × Nat) := [(0, .bipush 6, 2), (2, .iadd, 1), (3, .iaload, 1), (4, .aload_n 0, 1), (5, .iload_n 3, 1), (6, .bipush 7, 2), (8, .iadd, 1), (9, .iaload, 1), (10, .aload_n 0, 1), (11, .iload_n 3, 1), (12, .bipush 8, 2), (14, .iadd, 1), (15, .iaload, 1), (16, .aload_n 0, 1), (17, .iload_n 3, 1), (18, .bipush 9, 2), (20, .iadd, 1), (21, .iaload, 1), (22, .invokevirtual 114, 3), (25, .pop, 1), (26, .aload_n 2, 1), (27, .aload_n 0, 1), (28, .iload_n 3, 1), (29, .iconst 1, 1), (30, .iadd, 1), (31, .iaload, 1), (32, .aload_n 0, 1), (33, .iload_n 3, 1), (34, .iconst 2, 1), (35, .iadd, 1), (36, .iaload, 1), (37, .aload_n 0, 1), (38, .iload_n 3, 1), (39, .iconst 3, 1), (40, .iadd, 1), (41, .iaload, 1), (42, .aload_n 0, 1), (43, .iload_n 3, 1), (44, .iconst 4, 1), (45, .iadd, 1), (46, .iaload, 1), (47, .aload_n 0, 1), (48, .iload_n 3, 1), (49, .iconst 5, 1), (50, .iadd, 1), (51, .iaload, 1), (52, .aload_n 0, 1), (53, .iload_n 3, 1), (54, .bipush 6, 2), (56, .iadd, 1), (57, .iaload, 1), (58, .aload_n 0, 1), (59, .iload_n 3, 1), (60, .bipush 7, 2), (62, .iadd, 1), (63, .iaload, 1)]
theorem dsaL_law_64_16 : dstL_law_64_16.all (dqs1 ⟨⟨dslL_law_64_16⟩⟩ 1149) = true := by decide +kernel
theorem dL_law_1149 : decode cL_law 1149 = .ok (.bipush 6, 2) := (show decode cL_law (1149 + 0) = .ok (.bipush 6, 2) from dqs dskL_law_64_16 dsaL_law_64_16 0 rfl)
theorem dL_law_1151 : decode cL_law 1151 = .ok (.iadd, 1) := (show decode cL_law (1149 + 2) = .ok (.iadd, 1) from dqs dskL_law_64_16 dsaL_law_64_16 1 rfl)
theorem dL_law_1152 : decode cL_law 1152 = .ok (.iaload, 1) := (show decode cL_law (1149 + 3) = .ok (.iaload, 1) from dqs dskL_law_64_16 dsaL_law_64_16 2 rfl)
theorem dL_law_1153 : decode cL_law 1153 = .ok (.aload_n 0, 1) := (show decode cL_law (1149 + 4) = .ok (.aload_n 0, 1) from dqs dskL_law_64_16 dsaL_law_64_16 3 rfl)
theorem dL_law_1154 : decode cL_law 1154 = .ok (.iload_n 3, 1) := (show decode cL_law (1149 + 5) = .ok (.iload_n 3, 1) from dqs dskL_law_64_16 dsaL_law_64_16 4 rfl)
theorem dL_law_1155 : decode cL_law 1155 = .ok (.bipush 7, 2) := (show decode cL_law (1149 + 6) = .ok (.bipush 7, 2) from dqs dskL_law_64_16 dsaL_law_64_16 5 rfl)
theorem dL_law_1157 : decode cL_law 1157 = .ok (.iadd, 1) := (show decode cL_law (1149 + 8) = .ok (.iadd, 1) from dqs dskL_law_64_16 dsaL_law_64_16 6 rfl)
theorem dL_law_1158 : decode cL_law 1158 = .ok (.iaload, 1) := (show decode cL_law (1149 + 9) = .ok (.iaload, 1) from dqs dskL_law_64_16 dsaL_law_64_16 7 rfl)
theorem dL_law_1159 : decode cL_law 1159 = .ok (.aload_n 0, 1) := (show decode cL_law (1149 + 10) = .ok (.aload_n 0, 1) from dqs dskL_law_64_16 dsaL_law_64_16 8 rfl)
theorem dL_law_1160 : decode cL_law 1160 = .ok (.iload_n 3, 1) := (show decode cL_law (1149 + 11) = .ok (.iload_n 3, 1) from dqs dskL_law_64_16 dsaL_law_64_16 9 rfl)
theorem dL_law_1161 : decode cL_law 1161 = .ok (.bipush 8, 2) := (show decode cL_law (1149 + 12) = .ok (.bipush 8, 2) from dqs dskL_law_64_16 dsaL_law_64_16 10 rfl)
theorem dL_law_1163 : decode cL_law 1163 = .ok (.iadd, 1) := (show decode cL_law (1149 + 14) = .ok (.iadd, 1) from dqs dskL_law_64_16 dsaL_law_64_16 11 rfl)
theorem dL_law_1164 : decode cL_law 1164 = .ok (.iaload, 1) := (show decode cL_law (1149 + 15) = .ok (.iaload, 1) from dqs dskL_law_64_16 dsaL_law_64_16 12 rfl)
theorem dL_law_1165 : decode cL_law 1165 = .ok (.aload_n 0, 1) := (show decode cL_law (1149 + 16) = .ok (.aload_n 0, 1) from dqs dskL_law_64_16 dsaL_law_64_16 13 rfl)
theorem dL_law_1166 : decode cL_law 1166 = .ok (.iload_n 3, 1) := (show decode cL_law (1149 + 17) = .ok (.iload_n 3, 1) from dqs dskL_law_64_16 dsaL_law_64_16 14 rfl)
theorem dL_law_1167 : decode cL_law 1167 = .ok (.bipush 9, 2) := (show decode cL_law (1149 + 18) = .ok (.bipush 9, 2) from dqs dskL_law_64_16 dsaL_law_64_16 15 rfl)
theorem dL_law_1169 : decode cL_law 1169 = .ok (.iadd, 1) := (show decode cL_law (1149 + 20) = .ok (.iadd, 1) from dqs dskL_law_64_16 dsaL_law_64_16 16 rfl)
theorem dL_law_1170 : decode cL_law 1170 = .ok (.iaload, 1) := (show decode cL_law (1149 + 21) = .ok (.iaload, 1) from dqs dskL_law_64_16 dsaL_law_64_16 17 rfl)
theorem dL_law_1171 : decode cL_law 1171 = .ok (.invokevirtual 114, 3) := (show decode cL_law (1149 + 22) = .ok (.invokevirtual 114, 3) from dqs dskL_law_64_16 dsaL_law_64_16 18 rfl)
theorem dL_law_1174 : decode cL_law 1174 = .ok (.pop, 1) := (show decode cL_law (1149 + 25) = .ok (.pop, 1) from dqs dskL_law_64_16 dsaL_law_64_16 19 rfl)
theorem dL_law_1175 : decode cL_law 1175 = .ok (.aload_n 2, 1) := (show decode cL_law (1149 + 26) = .ok (.aload_n 2, 1) from dqs dskL_law_64_16 dsaL_law_64_16 20 rfl)
theorem dL_law_1176 : decode cL_law 1176 = .ok (.aload_n 0, 1) := (show decode cL_law (1149 + 27) = .ok (.aload_n 0, 1) from dqs dskL_law_64_16 dsaL_law_64_16 21 rfl)
theorem dL_law_1177 : decode cL_law 1177 = .ok (.iload_n 3, 1) := (show decode cL_law (1149 + 28) = .ok (.iload_n 3, 1) from dqs dskL_law_64_16 dsaL_law_64_16 22 rfl)
theorem dL_law_1178 : decode cL_law 1178 = .ok (.iconst 1, 1) := (show decode cL_law (1149 + 29) = .ok (.iconst 1, 1) from dqs dskL_law_64_16 dsaL_law_64_16 23 rfl)
theorem dL_law_1179 : decode cL_law 1179 = .ok (.iadd, 1) := (show decode cL_law (1149 + 30) = .ok (.iadd, 1) from dqs dskL_law_64_16 dsaL_law_64_16 24 rfl)
theorem dL_law_1180 : decode cL_law 1180 = .ok (.iaload, 1) := (show decode cL_law (1149 + 31) = .ok (.iaload, 1) from dqs dskL_law_64_16 dsaL_law_64_16 25 rfl)
theorem dL_law_1181 : decode cL_law 1181 = .ok (.aload_n 0, 1) := (show decode cL_law (1149 + 32) = .ok (.aload_n 0, 1) from dqs dskL_law_64_16 dsaL_law_64_16 26 rfl)
theorem dL_law_1182 : decode cL_law 1182 = .ok (.iload_n 3, 1) := (show decode cL_law (1149 + 33) = .ok (.iload_n 3, 1) from dqs dskL_law_64_16 dsaL_law_64_16 27 rfl)
theorem dL_law_1183 : decode cL_law 1183 = .ok (.iconst 2, 1) := (show decode cL_law (1149 + 34) = .ok (.iconst 2, 1) from dqs dskL_law_64_16 dsaL_law_64_16 28 rfl)
theorem dL_law_1184 : decode cL_law 1184 = .ok (.iadd, 1) := (show decode cL_law (1149 + 35) = .ok (.iadd, 1) from dqs dskL_law_64_16 dsaL_law_64_16 29 rfl)
theorem dL_law_1185 : decode cL_law 1185 = .ok (.iaload, 1) := (show decode cL_law (1149 + 36) = .ok (.iaload, 1) from dqs dskL_law_64_16 dsaL_law_64_16 30 rfl)
theorem dL_law_1186 : decode cL_law 1186 = .ok (.aload_n 0, 1) := (show decode cL_law (1149 + 37) = .ok (.aload_n 0, 1) from dqs dskL_law_64_16 dsaL_law_64_16 31 rfl)
theorem dL_law_1187 : decode cL_law 1187 = .ok (.iload_n 3, 1) := (show decode cL_law (1149 + 38) = .ok (.iload_n 3, 1) from dqs dskL_law_64_16 dsaL_law_64_16 32 rfl)
theorem dL_law_1188 : decode cL_law 1188 = .ok (.iconst 3, 1) := (show decode cL_law (1149 + 39) = .ok (.iconst 3, 1) from dqs dskL_law_64_16 dsaL_law_64_16 33 rfl)
theorem dL_law_1189 : decode cL_law 1189 = .ok (.iadd, 1) := (show decode cL_law (1149 + 40) = .ok (.iadd, 1) from dqs dskL_law_64_16 dsaL_law_64_16 34 rfl)
theorem dL_law_1190 : decode cL_law 1190 = .ok (.iaload, 1) := (show decode cL_law (1149 + 41) = .ok (.iaload, 1) from dqs dskL_law_64_16 dsaL_law_64_16 35 rfl)
theorem dL_law_1191 : decode cL_law 1191 = .ok (.aload_n 0, 1) := (show decode cL_law (1149 + 42) = .ok (.aload_n 0, 1) from dqs dskL_law_64_16 dsaL_law_64_16 36 rfl)
theorem dL_law_1192 : decode cL_law 1192 = .ok (.iload_n 3, 1) := (show decode cL_law (1149 + 43) = .ok (.iload_n 3, 1) from dqs dskL_law_64_16 dsaL_law_64_16 37 rfl)
theorem dL_law_1193 : decode cL_law 1193 = .ok (.iconst 4, 1) := (show decode cL_law (1149 + 44) = .ok (.iconst 4, 1) from dqs dskL_law_64_16 dsaL_law_64_16 38 rfl)
theorem dL_law_1194 : decode cL_law 1194 = .ok (.iadd, 1) := (show decode cL_law (1149 + 45) = .ok (.iadd, 1) from dqs dskL_law_64_16 dsaL_law_64_16 39 rfl)
theorem dL_law_1195 : decode cL_law 1195 = .ok (.iaload, 1) := (show decode cL_law (1149 + 46) = .ok (.iaload, 1) from dqs dskL_law_64_16 dsaL_law_64_16 40 rfl)
theorem dL_law_1196 : decode cL_law 1196 = .ok (.aload_n 0, 1) := (show decode cL_law (1149 + 47) = .ok (.aload_n 0, 1) from dqs dskL_law_64_16 dsaL_law_64_16 41 rfl)
theorem dL_law_1197 : decode cL_law 1197 = .ok (.iload_n 3, 1) := (show decode cL_law (1149 + 48) = .ok (.iload_n 3, 1) from dqs dskL_law_64_16 dsaL_law_64_16 42 rfl)
theorem dL_law_1198 : decode cL_law 1198 = .ok (.iconst 5, 1) := (show decode cL_law (1149 + 49) = .ok (.iconst 5, 1) from dqs dskL_law_64_16 dsaL_law_64_16 43 rfl)
theorem dL_law_1199 : decode cL_law 1199 = .ok (.iadd, 1) := (show decode cL_law (1149 + 50) = .ok (.iadd, 1) from dqs dskL_law_64_16 dsaL_law_64_16 44 rfl)
theorem dL_law_1200 : decode cL_law 1200 = .ok (.iaload, 1) := (show decode cL_law (1149 + 51) = .ok (.iaload, 1) from dqs dskL_law_64_16 dsaL_law_64_16 45 rfl)
theorem dL_law_1201 : decode cL_law 1201 = .ok (.aload_n 0, 1) := (show decode cL_law (1149 + 52) = .ok (.aload_n 0, 1) from dqs dskL_law_64_16 dsaL_law_64_16 46 rfl)
theorem dL_law_1202 : decode cL_law 1202 = .ok (.iload_n 3, 1) := (show decode cL_law (1149 + 53) = .ok (.iload_n 3, 1) from dqs dskL_law_64_16 dsaL_law_64_16 47 rfl)
theorem dL_law_1203 : decode cL_law 1203 = .ok (.bipush 6, 2) := (show decode cL_law (1149 + 54) = .ok (.bipush 6, 2) from dqs dskL_law_64_16 dsaL_law_64_16 48 rfl)
theorem dL_law_1205 : decode cL_law 1205 = .ok (.iadd, 1) := (show decode cL_law (1149 + 56) = .ok (.iadd, 1) from dqs dskL_law_64_16 dsaL_law_64_16 49 rfl)
theorem dL_law_1206 : decode cL_law 1206 = .ok (.iaload, 1) := (show decode cL_law (1149 + 57) = .ok (.iaload, 1) from dqs dskL_law_64_16 dsaL_law_64_16 50 rfl)
theorem dL_law_1207 : decode cL_law 1207 = .ok (.aload_n 0, 1) := (show decode cL_law (1149 + 58) = .ok (.aload_n 0, 1) from dqs dskL_law_64_16 dsaL_law_64_16 51 rfl)
theorem dL_law_1208 : decode cL_law 1208 = .ok (.iload_n 3, 1) := (show decode cL_law (1149 + 59) = .ok (.iload_n 3, 1) from dqs dskL_law_64_16 dsaL_law_64_16 52 rfl)
theorem dL_law_1209 : decode cL_law 1209 = .ok (.bipush 7, 2) := (show decode cL_law (1149 + 60) = .ok (.bipush 7, 2) from dqs dskL_law_64_16 dsaL_law_64_16 53 rfl)
theorem dL_law_1211 : decode cL_law 1211 = .ok (.iadd, 1) := (show decode cL_law (1149 + 62) = .ok (.iadd, 1) from dqs dskL_law_64_16 dsaL_law_64_16 54 rfl)
theorem dL_law_1212 : decode cL_law 1212 = .ok (.iaload, 1) := (show decode cL_law (1149 + 63) = .ok (.iaload, 1) from dqs dskL_law_64_16 dsaL_law_64_16 55 rfl)
def dslL_law_64_17 : List UInt8 := [0x2a, 0x1d, 0x10, 0x08, 0x60, 0x2e, 0x2a, 0x1d, 0x10, 0x09, 0x60, 0x2e, 0xb6, 0x00, 0x76, 0x57, 0xa7, 0x01, 0xf5, 0x2b, 0x2a, 0x1d, 0x04, 0x60, 0x2e, 0x2a, 0x1d, 0x05, 0x60, 0x2e, 0x2a, 0x1d, 0x06, 0x60, 0x2e, 0x2a, 0x1d, 0x07, 0x60, 0x2e, 0xb6, 0x00, 0x77, 0x57, 0x2c, 0x2a, 0x1d, 0x04, 0x60, 0x2e, 0x2a, 0x1d, 0x05, 0x60, 0x2e, 0x2a, 0x1d, 0x06, 0x60, 0x2e, 0x2a, 0x1d, 0x07, 0x60]
theorem dskL_law_64_17 : (cL_law.data.toList.drop 1213).take 64 = dslL_law_64_17 := by decide +kernel
def dstL_law_64_17 : List (Nat × Jvm.ClassFile.Instr × Nat) := [(0, .aload_n 0, 1), (1, .iload_n 3, 1), (2, .bipush 8, 2), (4, .iadd, 1), (5, .iaload, 1), (6, .aload_n 0, 1), (7, .iload_n 3, 1), (8, .bipush 9, 2), (10, .iadd, 1), (11, .iaload, 1), (12, .invokevirtual 118, 3), (15, .pop, 1), (16, .goto 501, 3), (19, .aload_n 1, 1), (20, .aload_n 0, 1), (21, .iload_n 3, 1), (22, .iconst 1, 1), (23, .iadd, 1), (24, .iaload, 1), (25, .aload_n 0, 1), (26, .iload_n 3, 1), (27, .iconst 2, 1), (28, .iadd, 1), (29, .iaload, 1), (30, .aload_n 0, 1), (31, .iload_n 3, 1), (32, .iconst 3, 1), (33, .iadd, 1), (34, .iaload, 1), (35, .aload_n 0, 1), (36, .iload_n 3, 1), (37, .iconst 4, 1), (38, .iadd, 1), (39, .iaload, 1), (40, .invokevirtual 119, 3), (43, .pop, 1), (44, .aload_n 2, 1), (45, .aload_n 0, 1), (46, .iload_n 3, 1), (47, .iconst 1, 1), (48, .iadd, 1), (49, .iaload, 1), (50, .aload_n 0, 1), (51, .iload_n 3, 1), (52, .iconst 2, 1), (53, .iadd, 1), (54, .iaload, 1), (55, .aload_n 0, 1), (56, .iload_n 3, 1), (57, .iconst 3, 1), (58, .iadd, 1), (59, .iaload, 1), (60, .aload_n 0, 1), (61, .iload_n 3, 1), (62, .iconst 4, 1), (63, .iadd, 1)]
theorem dsaL_law_64_17 : dstL_law_64_17.all (dqs1 ⟨⟨dslL_law_64_17⟩⟩ 1213) = true := by decide +kernel
theorem dL_law_1213 : decode cL_law 1213 = .ok (.aload_n 0, 1) := (show decode cL_law (1213 + 0) = .ok (.aload_n 0, 1) from dqs dskL_law_64_17 dsaL_law_64_17 0 rfl)
theorem dL_law_1214 : decode cL_law 1214 = .ok (.iload_n 3, 1) := (show decode cL_law (1213 + 1) = .ok (.iload_n 3, 1) from dqs dskL_law_64_17 dsaL_law_64_17 1 rfl)
theorem dL_law_1215 : decode cL_law 1215 = .ok (.bipush 8, 2) := (show decode cL_law (1213 + 2) = .ok (.bipush 8, 2) from dqs dskL_law_64_17 dsaL_law_64_17 2 rfl)
theorem dL_law_1217 : decode cL_law 1217 = .ok (.iadd, 1) := (show decode cL_law (1213 + 4) = .ok (.iadd, 1) from dqs dskL_law_64_17 dsaL_law_64_17 3 rfl)
theorem dL_law_1218 : decode cL_law 1218 = .ok (.iaload, 1) := (show decode cL_law (1213 + 5) = .ok (.iaload, 1) from dqs dskL_law_64_17 dsaL_law_64_17 4 rfl)
theorem dL_law_1219 : decode cL_law 1219 = .ok (.aload_n 0, 1) := (show decode cL_law (1213 + 6) = .ok (.aload_n 0, 1) from dqs dskL_law_64_17 dsaL_law_64_17 5 rfl)
theorem dL_law_1220 : decode cL_law 1220 = .ok (.iload_n 3, 1) := (show decode cL_law (1213 + 7) = .ok (.iload_n 3, 1) from dqs dskL_law_64_17 dsaL_law_64_17 6 rfl)
theorem dL_law_1221 : decode cL_law 1221 = .ok (.bipush 9, 2) := (show decode cL_law (1213 + 8) = .ok (.bipush 9, 2) from dqs dskL_law_64_17 dsaL_law_64_17 7 rfl)
theorem dL_law_1223 : decode cL_law 1223 = .ok (.iadd, 1) := (show decode cL_law (1213 + 10) = .ok (.iadd, 1) from dqs dskL_law_64_17 dsaL_law_64_17 8 rfl)
theorem dL_law_1224 : decode cL_law 1224 = .ok (.iaload, 1) := (show decode cL_law (1213 + 11) = .ok (.iaload, 1) from dqs dskL_law_64_17 dsaL_law_64_17 9 rfl)
theorem dL_law_1225 : decode cL_law 1225 = .ok (.invokevirtual 118, 3) := (show decode cL_law (1213 + 12) = .ok (.invokevirtual 118, 3) from dqs dskL_law_64_17 dsaL_law_64_17 10 rfl)
theorem dL_law_1228 : decode cL_law 1228 = .ok (.pop, 1) := (show decode cL_law (1213 + 15) = .ok (.pop, 1) from dqs dskL_law_64_17 dsaL_law_64_17 11 rfl)
theorem dL_law_1229 : decode cL_law 1229 = .ok (.goto 501, 3) := (show decode cL_law (1213 + 16) = .ok (.goto 501, 3) from dqs dskL_law_64_17 dsaL_law_64_17 12 rfl)
theorem dL_law_1232 : decode cL_law 1232 = .ok (.aload_n 1, 1) := (show decode cL_law (1213 + 19) = .ok (.aload_n 1, 1) from dqs dskL_law_64_17 dsaL_law_64_17 13 rfl)
theorem dL_law_1233 : decode cL_law 1233 = .ok (.aload_n 0, 1) := (show decode cL_law (1213 + 20) = .ok (.aload_n 0, 1) from dqs dskL_law_64_17 dsaL_law_64_17 14 rfl)
theorem dL_law_1234 : decode cL_law 1234 = .ok (.iload_n 3, 1) := (show decode cL_law (1213 + 21) = .ok (.iload_n 3, 1) from dqs dskL_law_64_17 dsaL_law_64_17 15 rfl)
theorem dL_law_1235 : decode cL_law 1235 = .ok (.iconst 1, 1) := (show decode cL_law (1213 + 22) = .ok (.iconst 1, 1) from dqs dskL_law_64_17 dsaL_law_64_17 16 rfl)
theorem dL_law_1236 : decode cL_law 1236 = .ok (.iadd, 1) := (show decode cL_law (1213 + 23) = .ok (.iadd, 1) from dqs dskL_law_64_17 dsaL_law_64_17 17 rfl)
theorem dL_law_1237 : decode cL_law 1237 = .ok (.iaload, 1) := (show decode cL_law (1213 + 24) = .ok (.iaload, 1) from dqs dskL_law_64_17 dsaL_law_64_17 18 rfl)
theorem dL_law_1238 : decode cL_law 1238 = .ok (.aload_n 0, 1) := (show decode cL_law (1213 + 25) = .ok (.aload_n 0, 1) from dqs dskL_law_64_17 dsaL_law_64_17 19 rfl)
theorem dL_law_1239 : decode cL_law 1239 = .ok (.iload_n 3, 1) := (show decode cL_law (1213 + 26) = .ok (.iload_n 3, 1) from dqs dskL_law_64_17 dsaL_law_64_17 20 rfl)
theorem dL_law_1240 : decode cL_law 1240 = .ok (.iconst 2, 1) := (show decode cL_law (1213 + 27) = .ok (.iconst 2, 1) from dqs dskL_law_64_17 dsaL_law_64_17 21 rfl)
theorem dL_law_1241 : decode cL_law 1241 = .ok (.iadd, 1) := (show decode cL_law (1213 + 28) = .ok (.iadd, 1) from dqs dskL_law_64_17 dsaL_law_64_17 22 rfl)
theorem dL_law_1242 : decode cL_law 1242 = .ok (.iaload, 1) := (show decode cL_law (1213 + 29) = .ok (.iaload, 1) from dqs dskL_law_64_17 dsaL_law_64_17 23 rfl)
theorem dL_law_1243 : decode cL_law 1243 = .ok (.aload_n 0, 1) := (show decode cL_law (1213 + 30) = .ok (.aload_n 0, 1) from dqs dskL_law_64_17 dsaL_law_64_17 24 rfl)
theorem dL_law_1244 : decode cL_law 1244 = .ok (.iload_n 3, 1) := (show decode cL_law (1213 + 31) = .ok (.iload_n 3, 1) from dqs dskL_law_64_17 dsaL_law_64_17 25 rfl)
theorem dL_law_1245 : decode cL_law 1245 = .ok (.iconst 3, 1) := (show decode cL_law (1213 + 32) = .ok (.iconst 3, 1) from dqs dskL_law_64_17 dsaL_law_64_17 26 rfl)
theorem dL_law_1246 : decode cL_law 1246 = .ok (.iadd, 1) := (show decode cL_law (1213 + 33) = .ok (.iadd, 1) from dqs dskL_law_64_17 dsaL_law_64_17 27 rfl)
theorem dL_law_1247 : decode cL_law 1247 = .ok (.iaload, 1) := (show decode cL_law (1213 + 34) = .ok (.iaload, 1) from dqs dskL_law_64_17 dsaL_law_64_17 28 rfl)
theorem dL_law_1248 : decode cL_law 1248 = .ok (.aload_n 0, 1) := (show decode cL_law (1213 + 35) = .ok (.aload_n 0, 1) from dqs dskL_law_64_17 dsaL_law_64_17 29 rfl)
theorem dL_law_1249 : decode cL_law 1249 = .ok (.iload_n 3, 1) := (show decode cL_law (1213 + 36) = .ok (.iload_n 3, 1) from dqs dskL_law_64_17 dsaL_law_64_17 30 rfl)
theorem dL_law_1250 : decode cL_law 1250 = .ok (.iconst 4, 1) := (show decode cL_law (1213 + 37) = .ok (.iconst 4, 1) from dqs dskL_law_64_17 dsaL_law_64_17 31 rfl)
theorem dL_law_1251 : decode cL_law 1251 = .ok (.iadd, 1) := (show decode cL_law (1213 + 38) = .ok (.iadd, 1) from dqs dskL_law_64_17 dsaL_law_64_17 32 rfl)
theorem dL_law_1252 : decode cL_law 1252 = .ok (.iaload, 1) := (show decode cL_law (1213 + 39) = .ok (.iaload, 1) from dqs dskL_law_64_17 dsaL_law_64_17 33 rfl)
theorem dL_law_1253 : decode cL_law 1253 = .ok (.invokevirtual 119, 3) := (show decode cL_law (1213 + 40) = .ok (.invokevirtual 119, 3) from dqs dskL_law_64_17 dsaL_law_64_17 34 rfl)
theorem dL_law_1256 : decode cL_law 1256 = .ok (.pop, 1) := (show decode cL_law (1213 + 43) = .ok (.pop, 1) from dqs dskL_law_64_17 dsaL_law_64_17 35 rfl)
theorem dL_law_1257 : decode cL_law 1257 = .ok (.aload_n 2, 1) := (show decode cL_law (1213 + 44) = .ok (.aload_n 2, 1) from dqs dskL_law_64_17 dsaL_law_64_17 36 rfl)
theorem dL_law_1258 : decode cL_law 1258 = .ok (.aload_n 0, 1) := (show decode cL_law (1213 + 45) = .ok (.aload_n 0, 1) from dqs dskL_law_64_17 dsaL_law_64_17 37 rfl)
theorem dL_law_1259 : decode cL_law 1259 = .ok (.iload_n 3, 1) := (show decode cL_law (1213 + 46) = .ok (.iload_n 3, 1) from dqs dskL_law_64_17 dsaL_law_64_17 38 rfl)
theorem dL_law_1260 : decode cL_law 1260 = .ok (.iconst 1, 1) := (show decode cL_law (1213 + 47) = .ok (.iconst 1, 1) from dqs dskL_law_64_17 dsaL_law_64_17 39 rfl)
theorem dL_law_1261 : decode cL_law 1261 = .ok (.iadd, 1) := (show decode cL_law (1213 + 48) = .ok (.iadd, 1) from dqs dskL_law_64_17 dsaL_law_64_17 40 rfl)
theorem dL_law_1262 : decode cL_law 1262 = .ok (.iaload, 1) := (show decode cL_law (1213 + 49) = .ok (.iaload, 1) from dqs dskL_law_64_17 dsaL_law_64_17 41 rfl)
theorem dL_law_1263 : decode cL_law 1263 = .ok (.aload_n 0, 1) := (show decode cL_law (1213 + 50) = .ok (.aload_n 0, 1) from dqs dskL_law_64_17 dsaL_law_64_17 42 rfl)
theorem dL_law_1264 : decode cL_law 1264 = .ok (.iload_n 3, 1) := (show decode cL_law (1213 + 51) = .ok (.iload_n 3, 1) from dqs dskL_law_64_17 dsaL_law_64_17 43 rfl)
theorem dL_law_1265 : decode cL_law 1265 = .ok (.iconst 2, 1) := (show decode cL_law (1213 + 52) = .ok (.iconst 2, 1) from dqs dskL_law_64_17 dsaL_law_64_17 44 rfl)
theorem dL_law_1266 : decode cL_law 1266 = .ok (.iadd, 1) := (show decode cL_law (1213 + 53) = .ok (.iadd, 1) from dqs dskL_law_64_17 dsaL_law_64_17 45 rfl)
theorem dL_law_1267 : decode cL_law 1267 = .ok (.iaload, 1) := (show decode cL_law (1213 + 54) = .ok (.iaload, 1) from dqs dskL_law_64_17 dsaL_law_64_17 46 rfl)
theorem dL_law_1268 : decode cL_law 1268 = .ok (.aload_n 0, 1) := (show decode cL_law (1213 + 55) = .ok (.aload_n 0, 1) from dqs dskL_law_64_17 dsaL_law_64_17 47 rfl)
theorem dL_law_1269 : decode cL_law 1269 = .ok (.iload_n 3, 1) := (show decode cL_law (1213 + 56) = .ok (.iload_n 3, 1) from dqs dskL_law_64_17 dsaL_law_64_17 48 rfl)
theorem dL_law_1270 : decode cL_law 1270 = .ok (.iconst 3, 1) := (show decode cL_law (1213 + 57) = .ok (.iconst 3, 1) from dqs dskL_law_64_17 dsaL_law_64_17 49 rfl)
theorem dL_law_1271 : decode cL_law 1271 = .ok (.iadd, 1) := (show decode cL_law (1213 + 58) = .ok (.iadd, 1) from dqs dskL_law_64_17 dsaL_law_64_17 50 rfl)
theorem dL_law_1272 : decode cL_law 1272 = .ok (.iaload, 1) := (show decode cL_law (1213 + 59) = .ok (.iaload, 1) from dqs dskL_law_64_17 dsaL_law_64_17 51 rfl)
theorem dL_law_1273 : decode cL_law 1273 = .ok (.aload_n 0, 1) := (show decode cL_law (1213 + 60) = .ok (.aload_n 0, 1) from dqs dskL_law_64_17 dsaL_law_64_17 52 rfl)
theorem dL_law_1274 : decode cL_law 1274 = .ok (.iload_n 3, 1) := (show decode cL_law (1213 + 61) = .ok (.iload_n 3, 1) from dqs dskL_law_64_17 dsaL_law_64_17 53 rfl)
theorem dL_law_1275 : decode cL_law 1275 = .ok (.iconst 4, 1) := (show decode cL_law (1213 + 62) = .ok (.iconst 4, 1) from dqs dskL_law_64_17 dsaL_law_64_17 54 rfl)
theorem dL_law_1276 : decode cL_law 1276 = .ok (.iadd, 1) := (show decode cL_law (1213 + 63) = .ok (.iadd, 1) from dqs dskL_law_64_17 dsaL_law_64_17 55 rfl)
def dslL_law_64_18 : List UInt8 := [0x2e, 0xb6, 0x00, 0x7b, 0x57, 0xa7, 0x01, 0xc0, 0x2b, 0x2a, 0x1d, 0x04, 0x60, 0x2e, 0x2a, 0x1d, 0x05, 0x60, 0x2e, 0x2a, 0x1d, 0x06, 0x60, 0x2e, 0xb6, 0x00, 0x7c, 0x57, 0x2c, 0x2a, 0x1d, 0x04, 0x60, 0x2e, 0x2a, 0x1d, 0x05, 0x60, 0x2e, 0x2a, 0x1d, 0x06, 0x60, 0x2e, 0xb6, 0x00, 0x7f, 0x57, 0xa7, 0x01, 0x95, 0x2b, 0x2a, 0x1d, 0x04, 0x60, 0x2e, 0x2a, 0x1d, 0x05, 0x60, 0x2e]
theorem dskL_law_64_18 : (cL_law.data.toList.drop 1277).take 62 = dslL_law_64_18 := by decide +kernel
def dstL_law_64_18 : List (Nat × Jvm.ClassFile.Instr × Nat) := [(0, .iaload, 1), (1, .invokevirtual 123, 3), (4, .pop, 1), (5, .goto 448, 3), (8, .aload_n 1, 1), (9, .aload_n 0, 1), (10, .iload_n 3, 1), (11, .iconst 1, 1), (12, .iadd, 1), (13, .iaload, 1), (14, .aload_n 0, 1), (15, .iload_n 3, 1), (16, .iconst 2, 1), (17, .iadd, 1), (18, .iaload, 1), (19, .aload_n 0, 1), (20, .iload_n 3, 1), (21, .iconst 3, 1), (22, .iadd, 1), (23, .iaload, 1), (24, .invokevirtual 124, 3), (27, .pop, 1), (28, .aload_n 2, 1), (29, .aload_n 0, 1), (30, .iload_n 3, 1), (31, .iconst 1, 1), (32, .iadd, 1), (33, .iaload, 1), (34, .aload_n 0, 1), (35, .iload_n 3, 1), (36, .iconst 2, 1), (37, .iadd, 1), (38, .iaload, 1), (39, .aload_n 0, 1), (40, .iload_n 3, 1), (41, .iconst 3, 1), (42, .iadd, 1), (43, .iaload, 1), (44, .invokevirtual 127, 3), (47, .pop, 1), (48, .goto 405, 3), (51, .aload_n 1, 1), (52, .aload_n 0, 1), (53, .iload_n 3, 1), (54, .iconst 1, 1), (55, .iadd, 1), (56, .iaload, 1), (57, .aload_n 0, 1), (58, .iload_n 3, 1), (59, .iconst 2, 1), (60, .iadd, 1), (61, .iaload, 1)]
theorem dsaL_law_64_18 : dstL_law_64_18.all (dqs1 ⟨⟨dslL_law_64_18⟩⟩ 1277) = true := by decide +kernel
theorem dL_law_1277 : decode cL_law 1277 = .ok (.iaload, 1) := (show decode cL_law (1277 + 0) = .ok (.iaload, 1) from dqs dskL_law_64_18 dsaL_law_64_18 0 rfl)
theorem dL_law_1278 : decode cL_law 1278 = .ok (.invokevirtual 123, 3) := (show decode cL_law (1277 + 1) = .ok (.invokevirtual 123, 3) from dqs dskL_law_64_18 dsaL_law_64_18 1 rfl)
theorem dL_law_1281 : decode cL_law 1281 = .ok (.pop, 1) := (show decode cL_law (1277 + 4) = .ok (.pop, 1) from dqs dskL_law_64_18 dsaL_law_64_18 2 rfl)
theorem dL_law_1282 : decode cL_law 1282 = .ok (.goto 448, 3) := (show decode cL_law (1277 + 5) = .ok (.goto 448, 3) from dqs dskL_law_64_18 dsaL_law_64_18 3 rfl)
theorem dL_law_1285 : decode cL_law 1285 = .ok (.aload_n 1, 1) := (show decode cL_law (1277 + 8) = .ok (.aload_n 1, 1) from dqs dskL_law_64_18 dsaL_law_64_18 4 rfl)
theorem dL_law_1286 : decode cL_law 1286 = .ok (.aload_n 0, 1) := (show decode cL_law (1277 + 9) = .ok (.aload_n 0, 1) from dqs dskL_law_64_18 dsaL_law_64_18 5 rfl)
theorem dL_law_1287 : decode cL_law 1287 = .ok (.iload_n 3, 1) := (show decode cL_law (1277 + 10) = .ok (.iload_n 3, 1) from dqs dskL_law_64_18 dsaL_law_64_18 6 rfl)
theorem dL_law_1288 : decode cL_law 1288 = .ok (.iconst 1, 1) := (show decode cL_law (1277 + 11) = .ok (.iconst 1, 1) from dqs dskL_law_64_18 dsaL_law_64_18 7 rfl)
theorem dL_law_1289 : decode cL_law 1289 = .ok (.iadd, 1) := (show decode cL_law (1277 + 12) = .ok (.iadd, 1) from dqs dskL_law_64_18 dsaL_law_64_18 8 rfl)
theorem dL_law_1290 : decode cL_law 1290 = .ok (.iaload, 1) := (show decode cL_law (1277 + 13) = .ok (.iaload, 1) from dqs dskL_law_64_18 dsaL_law_64_18 9 rfl)
theorem dL_law_1291 : decode cL_law 1291 = .ok (.aload_n 0, 1) := (show decode cL_law (1277 + 14) = .ok (.aload_n 0, 1) from dqs dskL_law_64_18 dsaL_law_64_18 10 rfl)
theorem dL_law_1292 : decode cL_law 1292 = .ok (.iload_n 3, 1) := (show decode cL_law (1277 + 15) = .ok (.iload_n 3, 1) from dqs dskL_law_64_18 dsaL_law_64_18 11 rfl)
theorem dL_law_1293 : decode cL_law 1293 = .ok (.iconst 2, 1) := (show decode cL_law (1277 + 16) = .ok (.iconst 2, 1) from dqs dskL_law_64_18 dsaL_law_64_18 12 rfl)
theorem dL_law_1294 : decode cL_law 1294 = .ok (.iadd, 1) := (show decode cL_law (1277 + 17) = .ok (.iadd, 1) from dqs dskL_law_64_18 dsaL_law_64_18 13 rfl)
theorem dL_law_1295 : decode cL_law 1295 = .ok (.iaload, 1) := (show decode cL_law (1277 + 18) = .ok (.iaload, 1) from dqs dskL_law_64_18 dsaL_law_64_18 14 rfl)
theorem dL_law_1296 : decode cL_law 1296 = .ok (.aload_n 0, 1) := (show decode cL_law (1277 + 19) = .ok (.aload_n 0, 1) from dqs dskL_law_64_18 dsaL_law_64_18 15 rfl)
theorem dL_law_1297 : decode cL_law 1297 = .ok (.iload_n 3, 1) := (show decode cL_law (1277 + 20) = .ok (.iload_n 3, 1) from dqs dskL_law_64_18 dsaL_law_64_18 16 rfl)
theorem dL_law_1298 : decode cL_law 1298 = .ok (.iconst 3, 1) := (show decode cL_law (1277 + 21) = .ok (.iconst 3, 1) from dqs dskL_law_64_18 dsaL_law_64_18 17 rfl)
theorem dL_law_1299 : decode cL_law 1299 = .ok (.iadd, 1) := (show decode cL_law (1277 + 22) = .ok (.iadd, 1) from dqs dskL_law_64_18 dsaL_law_64_18 18 rfl)
theorem dL_law_1300 : decode cL_law 1300 = .ok (.iaload, 1) := (show decode cL_law (1277 + 23) = .ok (.iaload, 1) from dqs dskL_law_64_18 dsaL_law_64_18 19 rfl)
theorem dL_law_1301 : decode cL_law 1301 = .ok (.invokevirtual 124, 3) := (show decode cL_law (1277 + 24) = .ok (.invokevirtual 124, 3) from dqs dskL_law_64_18 dsaL_law_64_18 20 rfl)
theorem dL_law_1304 : decode cL_law 1304 = .ok (.pop, 1) := (show decode cL_law (1277 + 27) = .ok (.pop, 1) from dqs dskL_law_64_18 dsaL_law_64_18 21 rfl)
theorem dL_law_1305 : decode cL_law 1305 = .ok (.aload_n 2, 1) := (show decode cL_law (1277 + 28) = .ok (.aload_n 2, 1) from dqs dskL_law_64_18 dsaL_law_64_18 22 rfl)
theorem dL_law_1306 : decode cL_law 1306 = .ok (.aload_n 0, 1) := (show decode cL_law (1277 + 29) = .ok (.aload_n 0, 1) from dqs dskL_law_64_18 dsaL_law_64_18 23 rfl)
theorem dL_law_1307 : decode cL_law 1307 = .ok (.iload_n 3, 1) := (show decode cL_law (1277 + 30) = .ok (.iload_n 3, 1) from dqs dskL_law_64_18 dsaL_law_64_18 24 rfl)
theorem dL_law_1308 : decode cL_law 1308 = .ok (.iconst 1, 1) := (show decode cL_law (1277 + 31) = .ok (.iconst 1, 1) from dqs dskL_law_64_18 dsaL_law_64_18 25 rfl)
theorem dL_law_1309 : decode cL_law 1309 = .ok (.iadd, 1) := (show decode cL_law (1277 + 32) = .ok (.iadd, 1) from dqs dskL_law_64_18 dsaL_law_64_18 26 rfl)
theorem dL_law_1310 : decode cL_law 1310 = .ok (.iaload, 1) := (show decode cL_law (1277 + 33) = .ok (.iaload, 1) from dqs dskL_law_64_18 dsaL_law_64_18 27 rfl)
theorem dL_law_1311 : decode cL_law 1311 = .ok (.aload_n 0, 1) := (show decode cL_law (1277 + 34) = .ok (.aload_n 0, 1) from dqs dskL_law_64_18 dsaL_law_64_18 28 rfl)
theorem dL_law_1312 : decode cL_law 1312 = .ok (.iload_n 3, 1) := (show decode cL_law (1277 + 35) = .ok (.iload_n 3, 1) from dqs dskL_law_64_18 dsaL_law_64_18 29 rfl)
theorem dL_law_1313 : decode cL_law 1313 = .ok (.iconst 2, 1) := (show decode cL_law (1277 + 36) = .ok (.iconst 2, 1) from dqs dskL_law_64_18 dsaL_law_64_18 30 rfl)
theorem dL_law_1314 : decode cL_law 1314 = .ok (.iadd, 1) := (show decode cL_law (1277 + 37) = .ok (.iadd, 1) from dqs dskL_law_64_18 dsaL_law_64_18 31 rfl)
theorem dL_law_1315 : decode cL_law 1315 = .ok (.iaload, 1) := (show decode cL_law (1277 + 38) = .ok (.iaload, 1) from dqs dskL_law_64_18 dsaL_law_64_18 32 rfl)
theorem dL_law_1316 : decode cL_law 1316 = .ok (.aload_n 0, 1) := (show decode cL_law (1277 + 39) = .ok (.aload_n 0, 1) from dqs dskL_law_64_18 dsaL_law_64_18 33 rfl)
theorem dL_law_1317 : decode cL_law 1317 = .ok (.iload_n 3, 1) := (show decode cL_law (1277 + 40) = .ok (.iload_n 3, 1) from dqs dskL_law_64_18 dsaL_law_64_18 34 rfl)
theorem dL_law_1318 : decode cL_law 1318 = .ok (.iconst 3, 1) := (show decode cL_law (1277 + 41) = .ok (.iconst 3, 1) from dqs dskL_law_64_18 dsaL_law_64_18 35 rfl)
theorem dL_law_1319 : decode cL_law 1319 = .ok (.iadd, 1) := (show decode cL_law (1277 + 42) = .ok (.iadd, 1) from dqs dskL_law_64_18 dsaL_law_64_18 36 rfl)
theorem dL_law_1320 : decode cL_law 1320 = .ok (.iaload, 1) := (show decode cL_law (1277 + 43) = .ok (.iaload, 1) from dqs dskL_law_64_18 dsaL_law_64_18 37 rfl)
theorem dL_law_1321 : decode cL_law 1321 = .ok (.invokevirtual 127, 3) := (show decode cL_law (1277 + 44) = .ok (.invokevirtual 127, 3) from dqs dskL_law_64_18 dsaL_law_64_18 38 rfl)
theorem dL_law_1324 : decode cL_law 1324 = .ok (.pop, 1) := (show decode cL_law (1277 + 47) = .ok (.pop, 1) from dqs dskL_law_64_18 dsaL_law_64_18 39 rfl)
theorem dL_law_1325 : decode cL_law 1325 = .ok (.goto 405, 3) := (show decode cL_law (1277 + 48) = .ok (.goto 405, 3) from dqs dskL_law_64_18 dsaL_law_64_18 40 rfl)
theorem dL_law_1328 : decode cL_law 1328 = .ok (.aload_n 1, 1) := (show decode cL_law (1277 + 51) = .ok (.aload_n 1, 1) from dqs dskL_law_64_18 dsaL_law_64_18 41 rfl)
theorem dL_law_1329 : decode cL_law 1329 = .ok (.aload_n 0, 1) := (show decode cL_law (1277 + 52) = .ok (.aload_n 0, 1) from dqs dskL_law_64_18 dsaL_law_64_18 42 rfl)
theorem dL_law_1330 : decode cL_law 1330 = .ok (.iload_n 3, 1) := (show decode cL_law (1277 + 53) = .ok (.iload_n 3, 1) from dqs dskL_law_64_18 dsaL_law_64_18 43 rfl)
theorem dL_law_1331 : decode cL_law 1331 = .ok (.iconst 1, 1) := (show decode cL_law (1277 + 54) = .ok (.iconst 1, 1) from dqs dskL_law_64_18 dsaL_law_64_18 44 rfl)
theorem dL_law_1332 : decode cL_law 1332 = .ok (.iadd, 1) := (show decode cL_law (1277 + 55) = .ok (.iadd, 1) from dqs dskL_law_64_18 dsaL_law_64_18 45 rfl)
theorem dL_law_1333 : decode cL_law 1333 = .ok (.iaload, 1) := (show decode cL_law (1277 + 56) = .ok (.iaload, 1) from dqs dskL_law_64_18 dsaL_law_64_18 46 rfl)
theorem dL_law_1334 : decode cL_law 1334 = .ok (.aload_n 0, 1) := (show decode cL_law (1277 + 57) = .ok (.aload_n 0, 1) from dqs dskL_law_64_18 dsaL_law_64_18 47 rfl)
theorem dL_law_1335 : decode cL_law 1335 = .ok (.iload_n 3, 1) := (show decode cL_law (1277 + 58) = .ok (.iload_n 3, 1) from dqs dskL_law_64_18 dsaL_law_64_18 48 rfl)
theorem dL_law_1336 : decode cL_law 1336 = .ok (.iconst 2, 1) := (show decode cL_law (1277 + 59) = .ok (.iconst 2, 1) from dqs dskL_law_64_18 dsaL_law_64_18 49 rfl)
theorem dL_law_1337 : decode cL_law 1337 = .ok (.iadd, 1) := (show decode cL_law (1277 + 60) = .ok (.iadd, 1) from dqs dskL_law_64_18 dsaL_law_64_18 50 rfl)
theorem dL_law_1338 : decode cL_law 1338 = .ok (.iaload, 1) := (show decode cL_law (1277 + 61) = .ok (.iaload, 1) from dqs dskL_law_64_18 dsaL_law_64_18 51 rfl)
def dslL_law_64_19 : List UInt8 := [0xb6, 0x00, 0x80, 0x57, 0x2c, 0x2a, 0x1d, 0x04, 0x60, 0x2e, 0x2a, 0x1d, 0x05, 0x60, 0x2e, 0xb6, 0x00, 0x83, 0x57, 0xa7, 0x01, 0x74, 0x2b, 0x2a, 0x1d, 0x04, 0x60, 0x2e, 0x2a, 0x1d, 0x05, 0x60, 0x2e, 0x2a, 0x1d, 0x06, 0x60, 0x2e, 0xb6, 0x00, 0x84, 0x57, 0x2c, 0x2a, 0x1d, 0x04, 0x60, 0x2e, 0x2a, 0x1d, 0x05, 0x60, 0x2e, 0x2a, 0x1d, 0x06, 0x60, 0x2e, 0xb6, 0x00, 0x87, 0x57]
theorem dskL_law_64_19 : (cL_law.data.toList.drop 1339).take 62 = dslL_law_64_19 := by decide +kernel
def dstL_law_64_19 : List (Nat × Jvm.ClassFile.Instr × Nat) := [(0, .invokevirtual 128, 3), (3, .pop, 1), (4, .aload_n 2, 1), (5, .aload_n 0, 1), (6, .iload_n 3, 1), (7, .iconst 1, 1), (8, .iadd, 1), (9, .iaload, 1), (10, .aload_n 0, 1), (11, .iload_n 3, 1), (12, .iconst 2, 1), (13, .iadd, 1), (14, .iaload, 1), (15, .invokevirtual 131, 3), (18, .pop, 1), (19, .goto 372, 3), (22, .aload_n 1, 1), (23, .aload_n 0, 1), (24, .iload_n 3, 1), (25, .iconst 1, 1), (26, .iadd, 1), (27, .iaload, 1), (28, .aload_n 0, 1), (29, .iload_n 3, 1), (30, .iconst 2, 1), (31, .iadd, 1), (32, .iaload, 1), (33, .aload_n 0, 1), (34, .iload_n 3, 1), (35, .iconst 3, 1), (36, .iadd, 1), (37, .iaload, 1), (38, .invokevirtual 132, 3), (41, .pop, 1), (42, .aload_n 2, 1), (43, .aload_n 0, 1), (44, .iload_n 3, 1), (45, .iconst 1, 1), (46, .iadd, 1), (47, .iaload, 1), (48, .aload_n 0, 1), (49, .iload_n 3, 1), (50, .iconst 2, 1), (51, .iadd, 1), (52, .iaload, 1), (53, .aload_n 0, 1), (54, .iload_n 3, 1), (55, .iconst 3, 1), (56, .iadd, 1), (57, .iaload, 1), (58, .invokevirtual 135, 3), (61, .pop, 1)]
theorem dsaL_law_64_19 : dstL_law_64_19.all (dqs1 ⟨⟨dslL_law_64_19⟩⟩ 1339) = true := by decide +kernel
theorem dL_law_1339 : decode cL_law 1339 = .ok (.invokevirtual 128, 3) := (show decode cL_law (1339 + 0) = .ok (.invokevirtual 128, 3) from dqs dskL_law_64_19 dsaL_law_64_19 0 rfl)
theorem dL_law_1342 : decode cL_law 1342 = .ok (.pop, 1) := (show decode cL_law (1339 + 3) = .ok (.pop, 1) from dqs dskL_law_64_19 dsaL_law_64_19 1 rfl)
theorem dL_law_1343 : decode cL_law 1343 = .ok (.aload_n 2, 1) := (show decode cL_law (1339 + 4) = .ok (.aload_n 2, 1) from dqs dskL_law_64_19 dsaL_law_64_19 2 rfl)
theorem dL_law_1344 : decode cL_law 1344 = .ok (.aload_n 0, 1) := (show decode cL_law (1339 + 5) = .ok (.aload_n 0, 1) from dqs dskL_law_64_19 dsaL_law_64_19 3 rfl)
theorem dL_law_1345 : decode cL_law 1345 = .ok (.iload_n 3, 1) := (show decode cL_law (1339 + 6) = .ok (.iload_n 3, 1) from dqs dskL_law_64_19 dsaL_law_64_19 4 rfl)
theorem dL_law_1346 : decode cL_law 1346 = .ok (.iconst 1, 1) := (show decode cL_law (1339 + 7) = .ok (.iconst 1, 1) from dqs dskL_law_64_19 dsaL_law_64_19 5 rfl)
theorem dL_law_1347 : decode cL_law 1347 = .ok (.iadd, 1) := (show decode cL_law (1339 + 8) = .ok (.iadd, 1) from dqs dskL_law_64_19 dsaL_law_64_19 6 rfl)
theorem dL_law_1348 : decode cL_law 1348 = .ok (.iaload, 1) := (show decode cL_law (1339 + 9) = .ok (.iaload, 1) from dqs dskL_law_64_19 dsaL_law_64_19 7 rfl)
theorem dL_law_1349 : decode cL_law 1349 = .ok (.aload_n 0, 1) := (show decode cL_law (1339 + 10) = .ok (.aload_n 0, 1) from dqs dskL_law_64_19 dsaL_law_64_19 8 rfl)
theorem dL_law_1350 : decode cL_law 1350 = .ok (.iload_n 3, 1) := (show decode cL_law (1339 + 11) = .ok (.iload_n 3, 1) from dqs dskL_law_64_19 dsaL_law_64_19 9 rfl)
theorem dL_law_1351 : decode cL_law 1351 = .ok (.iconst 2, 1) := (show decode cL_law (1339 + 12) = .ok (.iconst 2, 1) from dqs dskL_law_64_19 dsaL_law_64_19 10 rfl)
theorem dL_law_1352 : decode cL_law 1352 = .ok (.iadd, 1) := (show decode cL_law (1339 + 13) = .ok (.iadd, 1) from dqs dskL_law_64_19 dsaL_law_64_19 11 rfl)
theorem dL_law_1353 : decode cL_law 1353 = .ok (.iaload, 1) := (show decode cL_law (1339 + 14) = .ok (.iaload, 1) from dqs dskL_law_64_19 dsaL_law_64_19 12 rfl)
theorem dL_law_1354 : decode cL_law 1354 = .ok (.invokevirtual 131, 3) := (show decode cL_law (1339 + 15) = .ok (.invokevirtual 131, 3) from dqs dskL_law_64_19 dsaL_law_64_19 13 rfl)
theorem dL_law_1357 : decode cL_law 1357 = .ok (.pop, 1) := (show decode cL_law (1339 + 18) = .ok (.pop, 1) from dqs dskL_law_64_19 dsaL_law_64_19 14 rfl)
theorem dL_law_1358 : decode cL_law 1358 = .ok (.goto 372, 3) := (show decode cL_law (1339 + 19) = .ok (.goto 372, 3) from dqs dskL_law_64_19 dsaL_law_64_19 15 rfl)
theorem dL_law_1361 : decode cL_law 1361 = .ok (.aload_n 1, 1) := (show decode cL_law (1339 + 22) = .ok (.aload_n 1, 1) from dqs dskL_law_64_19 dsaL_law_64_19 16 rfl)
theorem dL_law_1362 : decode cL_law 1362 = .ok (.aload_n 0, 1) := (show decode cL_law (1339 + 23) = .ok (.aload_n 0, 1) from dqs dskL_law_64_19 dsaL_law_64_19 17 rfl)
theorem dL_law_1363 : decode cL_law 1363 = .ok (.iload_n 3, 1) := (show decode cL_law (1339 + 24) = .ok (.iload_n 3, 1) from dqs dskL_law_64_19 dsaL_law_64_19 18 rfl)
theorem dL_law_1364 : decode cL_law 1364 = .ok (.iconst 1, 1) := (show decode cL_law (1339 + 25) = .ok (.iconst 1, 1) from dqs dskL_law_64_19 dsaL_law_64_19 19 rfl)
theorem dL_law_1365 : decode cL_law 1365 = .ok (.iadd, 1) := (show decode cL_law (1339 + 26) = .ok (.iadd, 1) from dqs dskL_law_64_19 dsaL_law_64_19 20 rfl)
theorem dL_law_1366 : decode cL_law 1366 = .ok (.iaload, 1) := (show decode cL_law (1339 + 27) = .ok (.iaload, 1) from dqs dskL_law_64_19 dsaL_law_64_19 21 rfl)
theorem dL_law_1367 : decode cL_law 1367 = .ok (.aload_n 0, 1) := (show decode cL_law (1339 + 28) = .ok (.aload_n 0, 1) from dqs dskL_law_64_19 dsaL_law_64_19 22 rfl)
theorem dL_law_1368 : decode cL_law 1368 = .ok (.iload_n 3, 1) := (show decode cL_law (1339 + 29) = .ok (.iload_n 3, 1) from dqs dskL_law_64_19 dsaL_law_64_19 23 rfl)
theorem dL_law_1369 : decode cL_law 1369 = .ok (.iconst 2, 1) := (show decode cL_law (1339 + 30) = .ok (.iconst 2, 1) from dqs dskL_law_64_19 dsaL_law_64_19 24 rfl)
theorem dL_law_1370 : decode cL_law 1370 = .ok (.iadd, 1) := (show decode cL_law (1339 + 31) = .ok (.iadd, 1) from dqs dskL_law_64_19 dsaL_law_64_19 25 rfl)
theorem dL_law_1371 : decode cL_law 1371 = .ok (.iaload, 1) := (show decode cL_law (1339 + 32) = .ok (.iaload, 1) from dqs dskL_law_64_19 dsaL_law_64_19 26 rfl)
theorem dL_law_1372 : decode cL_law 1372 = .ok (.aload_n 0, 1) := (show decode cL_law (1339 + 33) = .ok (.aload_n 0, 1) from dqs dskL_law_64_19 dsaL_law_64_19 27 rfl)
theorem dL_law_1373 : decode cL_law 1373 = .ok (.iload_n 3, 1) := (show decode cL_law (1339 + 34) = .ok (.iload_n 3, 1) from dqs dskL_law_64_19 dsaL_law_64_19 28 rfl)
theorem dL_law_1374 : decode cL_law 1374 = .ok (.iconst 3, 1) := (show decode cL_law (1339 + 35) = .ok (.iconst 3, 1) from dqs dskL_law_64_19 dsaL_law_64_19 29 rfl)
theorem dL_law_1375 : decode cL_law 1375 = .ok (.iadd, 1) := (show decode cL_law (1339 + 36) = .ok (.iadd, 1) from dqs dskL_law_64_19 dsaL_law_64_19 30 rfl)
theorem dL_law_1376 : decode cL_law 1376 = .ok (.iaload, 1) := (show decode cL_law (1339 + 37) = .ok (.iaload, 1) from dqs dskL_law_64_19 dsaL_law_64_19 31 rfl)
theorem dL_law_1377 : decode cL_law 1377 = .ok (.invokevirtual 132, 3) := (show decode cL_law (1339 + 38) = .ok (.invokevirtual 132, 3) from dqs dskL_law_64_19 dsaL_law_64_19 32 rfl)
theorem dL_law_1380 : decode cL_law 1380 = .ok (.pop, 1) := (show decode cL_law (1339 + 41) = .ok (.pop, 1) from dqs dskL_law_64_19 dsaL_law_64_19 33 rfl)
theorem dL_law_1381 : decode cL_law 1381 = .ok (.aload_n 2, 1) := (show decode cL_law (1339 + 42) = .ok (.aload_n 2, 1) from dqs dskL_law_64_19 dsaL_law_64_19 34 rfl)
theorem dL_law_1382 : decode cL_law 1382 = .ok (.aload_n 0, 1) := (show decode cL_law (1339 + 43) = .ok (.aload_n 0, 1) from dqs dskL_law_64_19 dsaL_law_64_19 35 rfl)
theorem dL_law_1383 : decode cL_law 1383 = .ok (.iload_n 3, 1) := (show decode cL_law (1339 + 44) = .ok (.iload_n 3, 1) from dqs dskL_law_64_19 dsaL_law_64_19 36 rfl)
theorem dL_law_1384 : decode cL_law 1384 = .ok (.iconst 1, 1) := (show decode cL_law (1339 + 45) = .ok (.iconst 1, 1) from dqs dskL_law_64_19 dsaL_law_64_19 37 rfl)
theorem dL_law_1385 : decode cL_law 1385 = .ok (.iadd, 1) := (show decode cL_law (1339 + 46) = .ok (.iadd, 1) from dqs dskL_law_64_19 dsaL_law_64_19 38 rfl)
theorem dL_law_1386 : decode cL_law 1386 = .ok (.iaload, 1) := (show decode cL_law (1339 + 47) = .ok (.iaload, 1) from dqs dskL_law_64_19 dsaL_law_64_19 39 rfl)
theorem dL_law_1387 : decode cL_law 1387 = .ok (.aload_n 0, 1) := (show decode cL_law (1339 + 48) = .ok (.aload_n 0, 1) from dqs dskL_law_64_19 dsaL_law_64_19 40 rfl)
theorem dL_law_1388 : decode cL_law 1388 = .ok (.iload_n 3, 1) := (show decode cL_law (1339 + 49) = .ok (.iload_n 3, 1) from dqs dskL_law_64_19 dsaL_law_64_19 41 rfl)
theorem dL_law_1389 : decode cL_law 1389 = .ok (.iconst 2, 1) := (show decode cL_law (1339 + 50) = .ok (.iconst 2, 1) from dqs dskL_law_64_19 dsaL_law_64_19 42 rfl)
theorem dL_law_1390 : decode cL_law 1390 = .ok (.iadd, 1) := (show decode cL_law (1339 + 51) = .ok (.iadd, 1) from dqs dskL_law_64_19 dsaL_law_64_19 43 rfl)
theorem dL_law_1391 : decode cL_law 1391 = .ok (.iaload, 1) := (show decode cL_law (1339 + 52) = .ok (.iaload, 1) from dqs dskL_law_64_19 dsaL_law_64_19 44 rfl)
theorem dL_law_1392 : decode cL_law 1392 = .ok (.aload_n 0, 1) := (show decode cL_law (1339 + 53) = .ok (.aload_n 0, 1) from dqs dskL_law_64_19 dsaL_law_64_19 45 rfl)
theorem dL_law_1393 : decode cL_law 1393 = .ok (.iload_n 3, 1) := (show decode cL_law (1339 + 54) = .ok (.iload_n 3, 1) from dqs dskL_law_64_19 dsaL_law_64_19 46 rfl)
theorem dL_law_1394 : decode cL_law 1394 = .ok (.iconst 3, 1) := (show decode cL_law (1339 + 55) = .ok (.iconst 3, 1) from dqs dskL_law_64_19 dsaL_law_64_19 47 rfl)
theorem dL_law_1395 : decode cL_law 1395 = .ok (.iadd, 1) := (show decode cL_law (1339 + 56) = .ok (.iadd, 1) from dqs dskL_law_64_19 dsaL_law_64_19 48 rfl)
theorem dL_law_1396 : decode cL_law 1396 = .ok (.iaload, 1) := (show decode cL_law (1339 + 57) = .ok (.iaload, 1) from dqs dskL_law_64_19 dsaL_law_64_19 49 rfl)
theorem dL_law_1397 : decode cL_law 1397 = .ok (.invokevirtual 135, 3) := (show decode cL_law (1339 + 58) = .ok (.invokevirtual 135, 3) from dqs dskL_law_64_19 dsaL_law_64_19 50 rfl)
theorem dL_law_1400 : decode cL_law 1400 = .ok (.pop, 1) := (show decode cL_law (1339 + 61) = .ok (.pop, 1) from dqs dskL_law_64_19 dsaL_law_64_19 51 rfl)
def dslL_law_64_20 : List UInt8 := [0xa7, 0x01, 0x49, 0x2b, 0x2a, 0x1d, 0x04, 0x60, 0x2e, 0x2a, 0x1d, 0x05, 0x60, 0x2e, 0x2a, 0x1d, 0x06, 0x60, 0x2e, 0xb6, 0x00, 0x88, 0x57, 0x2c, 0x2a, 0x1d, 0x04, 0x60, 0x2e, 0x2a, 0x1d, 0x05, 0x60, 0x2e, 0x2a, 0x1d, 0x06, 0x60, 0x2e, 0xb6, 0x00, 0x8b, 0x57, 0xa7, 0x01, 0x1e, 0x2b, 0x2a, 0x1d, 0x04, 0x60, 0x2e, 0x2a, 0x1d, 0x05, 0x60, 0x2e, 0xb6, 0x00, 0x8c, 0x57, 0x2c, 0x2a, 0x1d]
theorem dskL_law_64_20 : (cL_law.data.toList.drop 1401).take 64 = dslL_law_64_20 := by decide +kernel
def dstL_law_64_20 : List (Nat × Jvm.ClassFile.Instr × Nat) := [(0, .goto 329, 3), (3, .aload_n 1, 1), (4, .aload_n 0, 1), (5, .iload_n 3, 1), (6, .iconst 1, 1), (7, .iadd, 1), (8, .iaload, 1), (9, .aload_n 0, 1), (10, .iload_n 3, 1), (11, .iconst 2, 1), (12, .iadd, 1), (13, .iaload, 1), (14, .aload_n 0, 1), (15, .iload_n 3, 1), (16, .iconst 3, 1), (17, .iadd, 1), (18, .iaload, 1), (19, .invokevirtual 136, 3), (22, .pop, 1), (23, .aload_n 2, 1), (24, .aload_n 0, 1), (25, .iload_n 3, 1), (26, .iconst 1, 1), (27, .iadd, 1), (28, .iaload, 1), (29, .aload_n 0, 1), (30, .iload_n 3, 1), (31, .iconst 2, 1), (32, .iadd, 1), (33, .iaload, 1), (34, .aload_n 0, 1), (35, .iload_n 3, 1), (36, .iconst 3, 1), (37, .iadd, 1), (38, .iaload, 1), (39, .invokevirtual 139, 3), (42, .pop, 1), (43, .goto 286, 3), (46, .aload_n 1, 1), (47, .aload_n 0, 1), (48, .iload_n 3, 1), (49, .iconst 1, 1), (50, .iadd, 1), (51, .iaload, 1), (52, .aload_n 0, 1), (53, .iload_n 3, 1), (54, .iconst 2, 1), (55, .iadd, 1), (56, .iaload, 1), (57, .invokevirtual 140, 3), (60, .pop, 1), (61, .aload_n 2, 1), (62, .aload_n 0, 1), (63, .iload_n 3, 1)]
theorem dsaL_law_64_20 : dstL_law_64_20.all (dqs1 ⟨⟨dslL_law_64_20⟩⟩ 1401) = true := by decide +kernel
theorem dL_law_1401 : decode cL_law 1401 = .ok (.goto 329, 3) := (show decode cL_law (1401 + 0) = .ok (.goto 329, 3) from dqs dskL_law_64_20 dsaL_law_64_20 0 rfl)
theorem dL_law_1404 : decode cL_law 1404 = .ok (.aload_n 1, 1) := (show decode cL_law (1401 + 3) = .ok (.aload_n 1, 1) from dqs dskL_law_64_20 dsaL_law_64_20 1 rfl)
theorem dL_law_1405 : decode cL_law 1405 = .ok (.aload_n 0, 1) := (show decode cL_law (1401 + 4) = .ok (.aload_n 0, 1) from dqs dskL_law_64_20 dsaL_law_64_20 2 rfl)
theorem dL_law_1406 : decode cL_law 1406 = .ok (.iload_n 3, 1) := (show decode cL_law (1401 + 5) = .ok (.iload_n 3, 1) from dqs dskL_law_64_20 dsaL_law_64_20 3 rfl)
theorem dL_law_1407 : decode cL_law 1407 = .ok (.iconst 1, 1) := (show decode cL_law (1401 + 6) = .ok (.iconst 1, 1) from dqs dskL_law_64_20 dsaL_law_64_20 4 rfl)
theorem dL_law_1408 : decode cL_law 1408 = .ok (.iadd, 1) := (show decode cL_law (1401 + 7) = .ok (.iadd, 1) from dqs dskL_law_64_20 dsaL_law_64_20 5 rfl)
theorem dL_law_1409 : decode cL_law 1409 = .ok (.iaload, 1) := (show decode cL_law (1401 + 8) = .ok (.iaload, 1) from dqs dskL_law_64_20 dsaL_law_64_20 6 rfl)
theorem dL_law_1410 : decode cL_law 1410 = .ok (.aload_n 0, 1) := (show decode cL_law (1401 + 9) = .ok (.aload_n 0, 1) from dqs dskL_law_64_20 dsaL_law_64_20 7 rfl)
theorem dL_law_1411 : decode cL_law 1411 = .ok (.iload_n 3, 1) := (show decode cL_law (1401 + 10) = .ok (.iload_n 3, 1) from dqs dskL_law_64_20 dsaL_law_64_20 8 rfl)
theorem dL_law_1412 : decode cL_law 1412 = .ok (.iconst 2, 1) := (show decode cL_law (1401 + 11) = .ok (.iconst 2, 1) from dqs dskL_law_64_20 dsaL_law_64_20 9 rfl)
theorem dL_law_1413 : decode cL_law 1413 = .ok (.iadd, 1) := (show decode cL_law (1401 + 12) = .ok (.iadd, 1) from dqs dskL_law_64_20 dsaL_law_64_20 10 rfl)
theorem dL_law_1414 : decode cL_law 1414 = .ok (.iaload, 1) := (show decode cL_law (1401 + 13) = .ok (.iaload, 1) from dqs dskL_law_64_20 dsaL_law_64_20 11 rfl)
theorem dL_law_1415 : decode cL_law 1415 = .ok (.aload_n 0, 1) := (show decode cL_law (1401 + 14) = .ok (.aload_n 0, 1) from dqs dskL_law_64_20 dsaL_law_64_20 12 rfl)
theorem dL_law_1416 : decode cL_law 1416 = .ok (.iload_n 3, 1) := (show decode cL_law (1401 + 15) = .ok (.iload_n 3, 1) from dqs dskL_law_64_20 dsaL_law_64_20 13 rfl)
theorem dL_law_1417 : decode cL_law 1417 = .ok (.iconst 3, 1) := (show decode cL_law (1401 + 16) = .ok (.iconst 3, 1) from dqs dskL_law_64_20 dsaL_law_64_20 14 rfl)
theorem dL_law_1418 : decode cL_law 1418 = .ok (.iadd, 1) := (show decode cL_law (1401 + 17) = .ok (.iadd, 1) from dqs dskL_law_64_20 dsaL_law_64_20 15 rfl)
theorem dL_law_1419 : decode cL_law 1419 = .ok (.iaload, 1) := (show decode cL_law (1401 + 18) = .ok (.iaload, 1) from dqs dskL_law_64_20 dsaL_law_64_20 16 rfl)
theorem dL_law_1420 : decode cL_law 1420 = .ok (.invokevirtual 136, 3) := (show decode cL_law (1401 + 19) = .ok (.invokevirtual 136, 3) from dqs dskL_law_64_20 dsaL_law_64_20 17 rfl)
theorem dL_law_1423 : decode cL_law 1423 = .ok (.pop, 1) := (show decode cL_law (1401 + 22) = .ok (.pop, 1) from dqs dskL_law_64_20 dsaL_law_64_20 18 rfl)
theorem dL_law_1424 : decode cL_law 1424 = .ok (.aload_n 2, 1) := (show decode cL_law (1401 + 23) = .ok (.aload_n 2, 1) from dqs dskL_law_64_20 dsaL_law_64_20 19 rfl)
theorem dL_law_1425 : decode cL_law 1425 = .ok (.aload_n 0, 1) := (show decode cL_law (1401 + 24) = .ok (.aload_n 0, 1) from dqs dskL_law_64_20 dsaL_law_64_20 20 rfl)
theorem dL_law_1426 : decode cL_law 1426 = .ok (.iload_n 3, 1) := (show decode cL_law (1401 + 25) = .ok (.iload_n 3, 1) from dqs dskL_law_64_20 dsaL_law_64_20 21 rfl)
theorem dL_law_1427 : decode cL_law 1427 = .ok (.iconst 1, 1) := (show decode cL_law (1401 + 26) = .ok (.iconst 1, 1) from dqs dskL_law_64_20 dsaL_law_64_20 22 rfl)
theorem dL_law_1428 : decode cL_law 1428 = .ok (.iadd, 1) := (show decode cL_law (1401 + 27) = .ok (.iadd, 1) from dqs dskL_law_64_20 dsaL_law_64_20 23 rfl)
theorem dL_law_1429 : decode cL_law 1429 = .ok (.iaload, 1) := (show decode cL_law (1401 + 28) = .ok (.iaload, 1) from dqs dskL_law_64_20 dsaL_law_64_20 24 rfl)
theorem dL_law_1430 : decode cL_law 1430 = .ok (.aload_n 0, 1) := (show decode cL_law (1401 + 29) = .ok (.aload_n 0, 1) from dqs dskL_law_64_20 dsaL_law_64_20 25 rfl)
theorem dL_law_1431 : decode cL_law 1431 = .ok (.iload_n 3, 1) := (show decode cL_law (1401 + 30) = .ok (.iload_n 3, 1) from dqs dskL_law_64_20 dsaL_law_64_20 26 rfl)
theorem dL_law_1432 : decode cL_law 1432 = .ok (.iconst 2, 1) := (show decode cL_law (1401 + 31) = .ok (.iconst 2, 1) from dqs dskL_law_64_20 dsaL_law_64_20 27 rfl)
theorem dL_law_1433 : decode cL_law 1433 = .ok (.iadd, 1) := (show decode cL_law (1401 + 32) = .ok (.iadd, 1) from dqs dskL_law_64_20 dsaL_law_64_20 28 rfl)
theorem dL_law_1434 : decode cL_law 1434 = .ok (.iaload, 1) := (show decode cL_law (1401 + 33) = .ok (.iaload, 1) from dqs dskL_law_64_20 dsaL_law_64_20 29 rfl)
theorem dL_law_1435 : decode cL_law 1435 = .ok (.aload_n 0, 1) := (show decode cL_law (1401 + 34) = .ok (.aload_n 0, 1) from dqs dskL_law_64_20 dsaL_law_64_20 30 rfl)
theorem dL_law_1436 : decode cL_law 1436 = .ok (.iload_n 3, 1) := (show decode cL_law (1401 + 35) = .ok (.iload_n 3, 1) from dqs dskL_law_64_20 dsaL_law_64_20 31 rfl)
theorem dL_law_1437 : decode cL_law 1437 = .ok (.iconst 3, 1) := (show decode cL_law (1401 + 36) = .ok (.iconst 3, 1) from dqs dskL_law_64_20 dsaL_law_64_20 32 rfl)
theorem dL_law_1438 : decode cL_law 1438 = .ok (.iadd, 1) := (show decode cL_law (1401 + 37) = .ok (.iadd, 1) from dqs dskL_law_64_20 dsaL_law_64_20 33 rfl)
theorem dL_law_1439 : decode cL_law 1439 = .ok (.iaload, 1) := (show decode cL_law (1401 + 38) = .ok (.iaload, 1) from dqs dskL_law_64_20 dsaL_law_64_20 34 rfl)
theorem dL_law_1440 : decode cL_law 1440 = .ok (.invokevirtual 139, 3) := (show decode cL_law (1401 + 39) = .ok (.invokevirtual 139, 3) from dqs dskL_law_64_20 dsaL_law_64_20 35 rfl)
theorem dL_law_1443 : decode cL_law 1443 = .ok (.pop, 1) := (show decode cL_law (1401 + 42) = .ok (.pop, 1) from dqs dskL_law_64_20 dsaL_law_64_20 36 rfl)
theorem dL_law_1444 : decode cL_law 1444 = .ok (.goto 286, 3) := (show decode cL_law (1401 + 43) = .ok (.goto 286, 3) from dqs dskL_law_64_20 dsaL_law_64_20 37 rfl)
theorem dL_law_1447 : decode cL_law 1447 = .ok (.aload_n 1, 1) := (show decode cL_law (1401 + 46) = .ok (.aload_n 1, 1) from dqs dskL_law_64_20 dsaL_law_64_20 38 rfl)
theorem dL_law_1448 : decode cL_law 1448 = .ok (.aload_n 0, 1) := (show decode cL_law (1401 + 47) = .ok (.aload_n 0, 1) from dqs dskL_law_64_20 dsaL_law_64_20 39 rfl)
theorem dL_law_1449 : decode cL_law 1449 = .ok (.iload_n 3, 1) := (show decode cL_law (1401 + 48) = .ok (.iload_n 3, 1) from dqs dskL_law_64_20 dsaL_law_64_20 40 rfl)
theorem dL_law_1450 : decode cL_law 1450 = .ok (.iconst 1, 1) := (show decode cL_law (1401 + 49) = .ok (.iconst 1, 1) from dqs dskL_law_64_20 dsaL_law_64_20 41 rfl)
theorem dL_law_1451 : decode cL_law 1451 = .ok (.iadd, 1) := (show decode cL_law (1401 + 50) = .ok (.iadd, 1) from dqs dskL_law_64_20 dsaL_law_64_20 42 rfl)
theorem dL_law_1452 : decode cL_law 1452 = .ok (.iaload, 1) := (show decode cL_law (1401 + 51) = .ok (.iaload, 1) from dqs dskL_law_64_20 dsaL_law_64_20 43 rfl)
theorem dL_law_1453 : decode cL_law 1453 = .ok (.aload_n 0, 1) := (show decode cL_law (1401 + 52) = .ok (.aload_n 0, 1) from dqs dskL_law_64_20 dsaL_law_64_20 44 rfl)
theorem dL_law_1454 : decode cL_law 1454 = .ok (.iload_n 3, 1) := (show decode cL_law (1401 + 53) = .ok (.iload_n 3, 1) from dqs dskL_law_64_20 dsaL_law_64_20 45 rfl)
theorem dL_law_1455 : decode cL_law 1455 = .ok (.iconst 2, 1) := (show decode cL_law (1401 + 54) = .ok (.iconst 2, 1) from dqs dskL_law_64_20 dsaL_law_64_20 46 rfl)
theorem dL_law_1456 : decode cL_law 1456 = .ok (.iadd, 1) := (show decode cL_law (1401 + 55) = .ok (.iadd, 1) from dqs dskL_law_64_20 dsaL_law_64_20 47 rfl)
theorem dL_law_1457 : decode cL_law 1457 = .ok (.iaload, 1) := (show decode cL_law (1401 + 56) = .ok (.iaload, 1) from dqs dskL_law_64_20 dsaL_law_64_20 48 rfl)
theorem dL_law_1458 : decode cL_law 1458 = .ok (.invokevirtual 140, 3) := (show decode cL_law (1401 + 57) = .ok (.invokevirtual 140, 3) from dqs dskL_law_64_20 dsaL_law_64_20 49 rfl)
theorem dL_law_1461 : decode cL_law 1461 = .ok (.pop, 1) := (show decode cL_law (1401 + 60) = .ok (.pop, 1) from dqs dskL_law_64_20 dsaL_law_64_20 50 rfl)
theorem dL_law_1462 : decode cL_law 1462 = .ok (.aload_n 2, 1) := (show decode cL_law (1401 + 61) = .ok (.aload_n 2, 1) from dqs dskL_law_64_20 dsaL_law_64_20 51 rfl)
theorem dL_law_1463 : decode cL_law 1463 = .ok (.aload_n 0, 1) := (show decode cL_law (1401 + 62) = .ok (.aload_n 0, 1) from dqs dskL_law_64_20 dsaL_law_64_20 52 rfl)
theorem dL_law_1464 : decode cL_law 1464 = .ok (.iload_n 3, 1) := (show decode cL_law (1401 + 63) = .ok (.iload_n 3, 1) from dqs dskL_law_64_20 dsaL_law_64_20 53 rfl)
def dslL_law_64_21 : List UInt8 := [0x04, 0x60, 0x2e, 0x2a, 0x1d, 0x05, 0x60, 0x2e, 0xb6, 0x00, 0x8f, 0x57, 0xa7, 0x00, 0xfd, 0x2b, 0x2a, 0x1d, 0x04, 0x60, 0x2e, 0x2a, 0x1d, 0x05, 0x60, 0x2e, 0x2a, 0x1d, 0x06, 0x60, 0x2e, 0x2a, 0x1d, 0x07, 0x60, 0x2e, 0x2a, 0x1d, 0x08, 0x60, 0x2e, 0xb6, 0x00, 0x90, 0x57, 0x2c, 0x2a, 0x1d, 0x04, 0x60, 0x2e, 0x2a, 0x1d, 0x05, 0x60, 0x2e, 0x2a, 0x1d, 0x06, 0x60, 0x2e, 0x2a, 0x1d, 0x07]
theorem dskL_law_64_21 : (cL_law.data.toList.drop 1465).take 64 = dslL_law_64_21 := by decide +kernel
def dstL_law_64_21 : List (Nat × Jvm.ClassFile.Instr × Nat) := [(0, .iconst 1, 1), (1, .iadd, 1), (2, .iaload, 1), (3, .aload_n 0, 1), (4, .iload_n 3, 1), (5, .iconst 2, 1), (6, .iadd, 1), (7, .iaload, 1), (8, .invokevirtual 143, 3), (11, .pop, 1), (12, .goto 253, 3), (15, .aload_n 1, 1), (16, .aload_n 0, 1), (17, .iload_n 3, 1), (18, .iconst 1, 1), (19, .iadd, 1), (20, .iaload, 1), (21, .aload_n 0, 1), (22, .iload_n 3, 1), (23, .iconst 2, 1), (24, .iadd, 1), (25, .iaload, 1), (26, .aload_n 0, 1), (27, .iload_n 3, 1), (28, .iconst 3, 1), (29, .iadd, 1), (30, .iaload, 1), (31, .aload_n 0, 1), (32, .iload_n 3, 1), (33, .iconst 4, 1), (34, .iadd, 1), (35, .iaload, 1), (36, .aload_n 0, 1), (37, .iload_n 3, 1), (38, .iconst 5, 1), (39, .iadd, 1), (40, .iaload, 1), (41, .invokevirtual 144, 3), (44, .pop, 1), (45, .aload_n 2, 1), (46, .aload_n 0, 1), (47, .iload_n 3, 1), (48, .iconst 1, 1), (49, .iadd, 1), (50, .iaload, 1), (51, .aload_n 0, 1), (52, .iload_n 3, 1), (53, .iconst 2, 1), (54, .iadd, 1), (55, .iaload, 1), (56, .aload_n 0, 1), (57, .iload_n 3, 1), (58, .iconst 3, 1), (59, .iadd, 1), (60, .iaload, 1), (61, .aload_n 0, 1), (62, .iload_n 3, 1), (63, .iconst 4, 1)]
theorem dsaL_law_64_21 : dstL_law_64_21.all (dqs1 ⟨⟨dslL_law_64_21⟩⟩ 1465) = true := by decide +kernel
theorem dL_law_1465 : decode cL_law 1465 = .ok (.iconst 1, 1) := (show decode cL_law (1465 + 0) = .ok (.iconst 1, 1) from dqs dskL_law_64_21 dsaL_law_64_21 0 rfl)
theorem dL_law_1466 : decode cL_law 1466 = .ok (.iadd, 1) := (show decode cL_law (1465 + 1) = .ok (.iadd, 1) from dqs dskL_law_64_21 dsaL_law_64_21 1 rfl)
theorem dL_law_1467 : decode cL_law 1467 = .ok (.iaload, 1) := (show decode cL_law (1465 + 2) = .ok (.iaload, 1) from dqs dskL_law_64_21 dsaL_law_64_21 2 rfl)
theorem dL_law_1468 : decode cL_law 1468 = .ok (.aload_n 0, 1) := (show decode cL_law (1465 + 3) = .ok (.aload_n 0, 1) from dqs dskL_law_64_21 dsaL_law_64_21 3 rfl)
theorem dL_law_1469 : decode cL_law 1469 = .ok (.iload_n 3, 1) := (show decode cL_law (1465 + 4) = .ok (.iload_n 3, 1) from dqs dskL_law_64_21 dsaL_law_64_21 4 rfl)
theorem dL_law_1470 : decode cL_law 1470 = .ok (.iconst 2, 1) := (show decode cL_law (1465 + 5) = .ok (.iconst 2, 1) from dqs dskL_law_64_21 dsaL_law_64_21 5 rfl)
theorem dL_law_1471 : decode cL_law 1471 = .ok (.iadd, 1) := (show decode cL_law (1465 + 6) = .ok (.iadd, 1) from dqs dskL_law_64_21 dsaL_law_64_21 6 rfl)
theorem dL_law_1472 : decode cL_law 1472 = .ok (.iaload, 1) := (show decode cL_law (1465 + 7) = .ok (.iaload, 1) from dqs dskL_law_64_21 dsaL_law_64_21 7 rfl)
theorem dL_law_1473 : decode cL_law 1473 = .ok (.invokevirtual 143, 3) := (show decode cL_law (1465 + 8) = .ok (.invokevirtual 143, 3) from dqs dskL_law_64_21 dsaL_law_64_21 8 rfl)
theorem dL_law_1476 : decode cL_law 1476 = .ok (.pop, 1) := (show decode cL_law (1465 + 11) = .ok (.pop, 1) from dqs dskL_law_64_21 dsaL_law_64_21 9 rfl)
theorem dL_law_1477 : decode cL_law 1477 = .ok (.goto 253, 3) := (show decode cL_law (1465 + 12) = .ok (.goto 253, 3) from dqs dskL_law_64_21 dsaL_law_64_21 10 rfl)
theorem dL_law_1480 : decode cL_law 1480 = .ok (.aload_n 1, 1) := (show decode cL_law (1465 + 15) = .ok (.aload_n 1, 1) from dqs dskL_law_64_21 dsaL_law_64_21 11 rfl)
theorem dL_law_1481 : decode cL_law 1481 = .ok (.aload_n 0, 1) := (show decode cL_law (1465 + 16) = .ok (.aload_n 0, 1) from dqs dskL_law_64_21 dsaL_law_64_21 12 rfl)
theorem dL_law_1482 : decode cL_law 1482 = .ok (.iload_n 3, 1) := (show decode cL_law (1465 + 17) = .ok (.iload_n 3, 1) from dqs dskL_law_64_21 dsaL_law_64_21 13 rfl)
theorem dL_law_1483 : decode cL_law 1483 = .ok (.iconst 1, 1) := (show decode cL_law (1465 + 18) = .ok (.iconst 1, 1) from dqs dskL_law_64_21 dsaL_law_64_21 14 rfl)
theorem dL_law_1484 : decode cL_law 1484 = .ok (.iadd, 1) := (show decode cL_law (1465 + 19) = .ok (.iadd, 1) from dqs dskL_law_64_21 dsaL_law_64_21 15 rfl)
theorem dL_law_1485 : decode cL_law 1485 = .ok (.iaload, 1) := (show decode cL_law (1465 + 20) = .ok (.iaload, 1) from dqs dskL_law_64_21 dsaL_law_64_21 16 rfl)
theorem dL_law_1486 : decode cL_law 1486 = .ok (.aload_n 0, 1) := (show decode cL_law (1465 + 21) = .ok (.aload_n 0, 1) from dqs dskL_law_64_21 dsaL_law_64_21 17 rfl)
theorem dL_law_1487 : decode cL_law 1487 = .ok (.iload_n 3, 1) := (show decode cL_law (1465 + 22) = .ok (.iload_n 3, 1) from dqs dskL_law_64_21 dsaL_law_64_21 18 rfl)
theorem dL_law_1488 : decode cL_law 1488 = .ok (.iconst 2, 1) := (show decode cL_law (1465 + 23) = .ok (.iconst 2, 1) from dqs dskL_law_64_21 dsaL_law_64_21 19 rfl)
theorem dL_law_1489 : decode cL_law 1489 = .ok (.iadd, 1) := (show decode cL_law (1465 + 24) = .ok (.iadd, 1) from dqs dskL_law_64_21 dsaL_law_64_21 20 rfl)
theorem dL_law_1490 : decode cL_law 1490 = .ok (.iaload, 1) := (show decode cL_law (1465 + 25) = .ok (.iaload, 1) from dqs dskL_law_64_21 dsaL_law_64_21 21 rfl)
theorem dL_law_1491 : decode cL_law 1491 = .ok (.aload_n 0, 1) := (show decode cL_law (1465 + 26) = .ok (.aload_n 0, 1) from dqs dskL_law_64_21 dsaL_law_64_21 22 rfl)
theorem dL_law_1492 : decode cL_law 1492 = .ok (.iload_n 3, 1) := (show decode cL_law (1465 + 27) = .ok (.iload_n 3, 1) from dqs dskL_law_64_21 dsaL_law_64_21 23 rfl)
theorem dL_law_1493 : decode cL_law 1493 = .ok (.iconst 3, 1) := (show decode cL_law (1465 + 28) = .ok (.iconst 3, 1) from dqs dskL_law_64_21 dsaL_law_64_21 24 rfl)
theorem dL_law_1494 : decode cL_law 1494 = .ok (.iadd, 1) := (show decode cL_law (1465 + 29) = .ok (.iadd, 1) from dqs dskL_law_64_21 dsaL_law_64_21 25 rfl)
theorem dL_law_1495 : decode cL_law 1495 = .ok (.iaload, 1) := (show decode cL_law (1465 + 30) = .ok (.iaload, 1) from dqs dskL_law_64_21 dsaL_law_64_21 26 rfl)
theorem dL_law_1496 : decode cL_law 1496 = .ok (.aload_n 0, 1) := (show decode cL_law (1465 + 31) = .ok (.aload_n 0, 1) from dqs dskL_law_64_21 dsaL_law_64_21 27 rfl)
theorem dL_law_1497 : decode cL_law 1497 = .ok (.iload_n 3, 1) := (show decode cL_law (1465 + 32) = .ok (.iload_n 3, 1) from dqs dskL_law_64_21 dsaL_law_64_21 28 rfl)
theorem dL_law_1498 : decode cL_law 1498 = .ok (.iconst 4, 1) := (show decode cL_law (1465 + 33) = .ok (.iconst 4, 1) from dqs dskL_law_64_21 dsaL_law_64_21 29 rfl)
theorem dL_law_1499 : decode cL_law 1499 = .ok (.iadd, 1) := (show decode cL_law (1465 + 34) = .ok (.iadd, 1) from dqs dskL_law_64_21 dsaL_law_64_21 30 rfl)
theorem dL_law_1500 : decode cL_law 1500 = .ok (.iaload, 1) := (show decode cL_law (1465 + 35) = .ok (.iaload, 1) from dqs dskL_law_64_21 dsaL_law_64_21 31 rfl)
theorem dL_law_1501 : decode cL_law 1501 = .ok (.aload_n 0, 1) := (show decode cL_law (1465 + 36) = .ok (.aload_n 0, 1) from dqs dskL_law_64_21 dsaL_law_64_21 32 rfl)
theorem dL_law_1502 : decode cL_law 1502 = .ok (.iload_n 3, 1) := (show decode cL_law (1465 + 37) = .ok (.iload_n 3, 1) from dqs dskL_law_64_21 dsaL_law_64_21 33 rfl)
theorem dL_law_1503 : decode cL_law 1503 = .ok (.iconst 5, 1) := (show decode cL_law (1465 + 38) = .ok (.iconst 5, 1) from dqs dskL_law_64_21 dsaL_law_64_21 34 rfl)
theorem dL_law_1504 : decode cL_law 1504 = .ok (.iadd, 1) := (show decode cL_law (1465 + 39) = .ok (.iadd, 1) from dqs dskL_law_64_21 dsaL_law_64_21 35 rfl)
theorem dL_law_1505 : decode cL_law 1505 = .ok (.iaload, 1) := (show decode cL_law (1465 + 40) = .ok (.iaload, 1) from dqs dskL_law_64_21 dsaL_law_64_21 36 rfl)
theorem dL_law_1506 : decode cL_law 1506 = .ok (.invokevirtual 144, 3) := (show decode cL_law (1465 + 41) = .ok (.invokevirtual 144, 3) from dqs dskL_law_64_21 dsaL_law_64_21 37 rfl)
theorem dL_law_1509 : decode cL_law 1509 = .ok (.pop, 1) := (show decode cL_law (1465 + 44) = .ok (.pop, 1) from dqs dskL_law_64_21 dsaL_law_64_21 38 rfl)
theorem dL_law_1510 : decode cL_law 1510 = .ok (.aload_n 2, 1) := (show decode cL_law (1465 + 45) = .ok (.aload_n 2, 1) from dqs dskL_law_64_21 dsaL_law_64_21 39 rfl)
theorem dL_law_1511 : decode cL_law 1511 = .ok (.aload_n 0, 1) := (show decode cL_law (1465 + 46) = .ok (.aload_n 0, 1) from dqs dskL_law_64_21 dsaL_law_64_21 40 rfl)
theorem dL_law_1512 : decode cL_law 1512 = .ok (.iload_n 3, 1) := (show decode cL_law (1465 + 47) = .ok (.iload_n 3, 1) from dqs dskL_law_64_21 dsaL_law_64_21 41 rfl)
theorem dL_law_1513 : decode cL_law 1513 = .ok (.iconst 1, 1) := (show decode cL_law (1465 + 48) = .ok (.iconst 1, 1) from dqs dskL_law_64_21 dsaL_law_64_21 42 rfl)
theorem dL_law_1514 : decode cL_law 1514 = .ok (.iadd, 1) := (show decode cL_law (1465 + 49) = .ok (.iadd, 1) from dqs dskL_law_64_21 dsaL_law_64_21 43 rfl)
theorem dL_law_1515 : decode cL_law 1515 = .ok (.iaload, 1) := (show decode cL_law (1465 + 50) = .ok (.iaload, 1) from dqs dskL_law_64_21 dsaL_law_64_21 44 rfl)
theorem dL_law_1516 : decode cL_law 1516 = .ok (.aload_n 0, 1) := (show decode cL_law (1465 + 51) = .ok (.aload_n 0, 1) from dqs dskL_law_64_21 dsaL_law_64_21 45 rfl)
theorem dL_law_1517 : decode cL_law 1517 = .ok (.iload_n 3, 1) := (show decode cL_law (1465 + 52) = .ok (.iload_n 3, 1) from dqs dskL_law_64_21 dsaL_law_64_21 46 rfl)
theorem dL_law_1518 : decode cL_law 1518 = .ok (.iconst 2, 1) := (show decode cL_law (1465 + 53) = .ok (.iconst 2, 1) from dqs dskL_law_64_21 dsaL_law_64_21 47 rfl)
theorem dL_law_1519 : decode cL_law 1519 = .ok (.iadd, 1) := (show decode cL_law (1465 + 54) = .ok (.iadd, 1) from dqs dskL_law_64_21 dsaL_law_64_21 48 rfl)
theorem dL_law_1520 : decode cL_law 1520 = .ok (.iaload, 1) := (show decode cL_law (1465 + 55) = .ok (.iaload, 1) from dqs dskL_law_64_21 dsaL_law_64_21 49 rfl)
theorem dL_law_1521 : decode cL_law 1521 = .ok (.aload_n 0, 1) := (show decode cL_law (1465 + 56) = .ok (.aload_n 0, 1) from dqs dskL_law_64_21 dsaL_law_64_21 50 rfl)
theorem dL_law_1522 : decode cL_law 1522 = .ok (.iload_n 3, 1) := (show decode cL_law (1465 + 57) = .ok (.iload_n 3, 1) from dqs dskL_law_64_21 dsaL_law_64_21 51 rfl)
theorem dL_law_1523 : decode cL_law 1523 = .ok (.iconst 3, 1) := (show decode cL_law (1465 + 58) = .ok (.iconst 3, 1) from dqs dskL_law_64_21 dsaL_law_64_21 52 rfl)
theorem dL_law_1524 : decode cL_law 1524 = .ok (.iadd, 1) := (show decode cL_law (1465 + 59) = .ok (.iadd, 1) from dqs dskL_law_64_21 dsaL_law_64_21 53 rfl)
theorem dL_law_1525 : decode cL_law 1525 = .ok (.iaload, 1) := (show decode cL_law (1465 + 60) = .ok (.iaload, 1) from dqs dskL_law_64_21 dsaL_law_64_21 54 rfl)
theorem dL_law_1526 : decode cL_law 1526 = .ok (.aload_n 0, 1) := (show decode cL_law (1465 + 61) = .ok (.aload_n 0, 1) from dqs dskL_law_64_21 dsaL_law_64_21 55 rfl)
theorem dL_law_1527 : decode cL_law 1527 = .ok (.iload_n 3, 1) := (show decode cL_law (1465 + 62) = .ok (.iload_n 3, 1) from dqs dskL_law_64_21 dsaL_law_64_21 56 rfl)
theorem dL_law_1528 : decode cL_law 1528 = .ok (.iconst 4, 1) := (show decode cL_law (1465 + 63) = .ok (.iconst 4, 1) from dqs dskL_law_64_21 dsaL_law_64_21 57 rfl)
def dslL_law_64_22 : List UInt8 := [0x60, 0x2e, 0x2a, 0x1d, 0x08, 0x60, 0x2e, 0xb6, 0x00, 0x93, 0x57, 0xa7, 0x00, 0xbe, 0x2b, 0x2a, 0x1d, 0x04, 0x60, 0x2e, 0x2a, 0x1d, 0x05, 0x60, 0x2e, 0x2a, 0x1d, 0x06, 0x60, 0x2e, 0x2a, 0x1d, 0x07, 0x60, 0x2e, 0x2a, 0x1d, 0x08, 0x60, 0x2e, 0x2a, 0x1d, 0x10, 0x06, 0x60, 0x2e, 0xb6, 0x00, 0x94, 0x57, 0x2c, 0x2a, 0x1d, 0x04, 0x60, 0x2e, 0x2a, 0x1d, 0x05, 0x60, 0x2e, 0x2a, 0x1d, 0x06]
theorem dskL_law_64_22 : (cL_law.data.toList.drop 1529).take 64 = dslL_law_64_22 := by decide +kernel
def dstL_law_64_22 : List (Nat × Jvm.ClassFile.Instr × Nat) := [(0, .iadd, 1), (1, .iaload, 1), (2, .aload_n 0, 1), (3, .iload_n 3, 1), (4, .iconst 5, 1), (5, .iadd, 1), (6, .iaload, 1), (7, .invokevirtual 147, 3), (10, .pop, 1), (11, .goto 190, 3), (14, .aload_n 1, 1), (15, .aload_n 0, 1), (16, .iload_n 3, 1), (17, .iconst 1, 1), (18, .iadd, 1), (19, .iaload, 1), (20, .aload_n 0, 1), (21, .iload_n 3, 1), (22, .iconst 2, 1), (23, .iadd, 1), (24, .iaload, 1), (25, .aload_n 0, 1), (26, .iload_n 3, 1), (27, .iconst 3, 1), (28, .iadd, 1), (29, .iaload, 1), (30, .aload_n 0, 1), (31, .iload_n 3, 1), (32, .iconst 4, 1), (33, .iadd, 1), (34, .iaload, 1), (35, .aload_n 0, 1), (36, .iload_n 3, 1), (37, .iconst 5, 1), (38, .iadd, 1), (39, .iaload, 1), (40, .aload_n 0, 1), (41, .iload_n 3, 1), (42, .bipush 6, 2), (44, .iadd, 1), (45, .iaload, 1), (46, .invokevirtual 148, 3), (49, .pop, 1), (50, .aload_n 2, 1), (51, .aload_n 0, 1), (52, .iload_n 3, 1), (53, .iconst 1, 1), (54, .iadd, 1), (55, .iaload, 1), (56, .aload_n 0, 1), (57, .iload_n 3, 1), (58, .iconst 2, 1), (59, .iadd, 1), (60, .iaload, 1), (61, .aload_n 0, 1), (62, .iload_n 3, 1), (63, .iconst 3, 1)]
theorem dsaL_law_64_22 : dstL_law_64_22.all (dqs1 ⟨⟨dslL_law_64_22⟩⟩ 1529) = true := by decide +kernel
theorem dL_law_1529 : decode cL_law 1529 = .ok (.iadd, 1) := (show decode cL_law (1529 + 0) = .ok (.iadd, 1) from dqs dskL_law_64_22 dsaL_law_64_22 0 rfl)
theorem dL_law_1530 : decode cL_law 1530 = .ok (.iaload, 1) := (show decode cL_law (1529 + 1) = .ok (.iaload, 1) from dqs dskL_law_64_22 dsaL_law_64_22 1 rfl)
theorem dL_law_1531 : decode cL_law 1531 = .ok (.aload_n 0, 1) := (show decode cL_law (1529 + 2) = .ok (.aload_n 0, 1) from dqs dskL_law_64_22 dsaL_law_64_22 2 rfl)
theorem dL_law_1532 : decode cL_law 1532 = .ok (.iload_n 3, 1) := (show decode cL_law (1529 + 3) = .ok (.iload_n 3, 1) from dqs dskL_law_64_22 dsaL_law_64_22 3 rfl)
theorem dL_law_1533 : decode cL_law 1533 = .ok (.iconst 5, 1) := (show decode cL_law (1529 + 4) = .ok (.iconst 5, 1) from dqs dskL_law_64_22 dsaL_law_64_22 4 rfl)
theorem dL_law_1534 : decode cL_law 1534 = .ok (.iadd, 1) := (show decode cL_law (1529 + 5) = .ok (.iadd, 1) from dqs dskL_law_64_22 dsaL_law_64_22 5 rfl)
theorem dL_law_1535 : decode cL_law 1535 = .ok (.iaload, 1) := (show decode cL_law (1529 + 6) = .ok (.iaload, 1) from dqs dskL_law_64_22 dsaL_law_64_22 6 rfl)
theorem dL_law_1536 : decode cL_law 1536 = .ok (.invokevirtual 147, 3) := (show decode cL_law (1529 + 7) = .ok (.invokevirtual 147, 3) from dqs dskL_law_64_22 dsaL_law_64_22 7 rfl)
theorem dL_law_1539 : decode cL_law 1539 = .ok (.pop, 1) := (show decode cL_law (1529 + 10) = .ok (.pop, 1) from dqs dskL_law_64_22 dsaL_law_64_22 8 rfl)
theorem dL_law_1540 : decode cL_law 1540 = .ok (.goto 190, 3) := (show decode cL_law (1529 + 11) = .ok (.goto 190, 3) from dqs dskL_law_64_22 dsaL_law_64_22 9 rfl)
theorem dL_law_1543 : decode cL_law 1543 = .ok (.aload_n 1, 1) := (show decode cL_law (1529 + 14) = .ok (.aload_n 1, 1) from dqs dskL_law_64_22 dsaL_law_64_22 10 rfl)
theorem dL_law_1544 : decode cL_law 1544 = .ok (.aload_n 0, 1) := (show decode cL_law (1529 + 15) = .ok (.aload_n 0, 1) from dqs dskL_law_64_22 dsaL_law_64_22 11 rfl)
theorem dL_law_1545 : decode cL_law 1545 = .ok (.iload_n 3, 1) := (show decode cL_law (1529 + 16) = .ok (.iload_n 3, 1) from dqs dskL_law_64_22 dsaL_law_64_22 12 rfl)
theorem dL_law_1546 : decode cL_law 1546 = .ok (.iconst 1, 1) := (show decode cL_law (1529 + 17) = .ok (.iconst 1, 1) from dqs dskL_law_64_22 dsaL_law_64_22 13 rfl)
theorem dL_law_1547 : decode cL_law 1547 = .ok (.iadd, 1) := (show decode cL_law (1529 + 18) = .ok (.iadd, 1) from dqs dskL_law_64_22 dsaL_law_64_22 14 rfl)
theorem dL_law_1548 : decode cL_law 1548 = .ok (.iaload, 1) := (show decode cL_law (1529 + 19) = .ok (.iaload, 1) from dqs dskL_law_64_22 dsaL_law_64_22 15 rfl)
theorem dL_law_1549 : decode cL_law 1549 = .ok (.aload_n 0, 1) := (show decode cL_law (1529 + 20) = .ok (.aload_n 0, 1) from dqs dskL_law_64_22 dsaL_law_64_22 16 rfl)
theorem dL_law_1550 : decode cL_law 1550 = .ok (.iload_n 3, 1) := (show decode cL_law (1529 + 21) = .ok (.iload_n 3, 1) from dqs dskL_law_64_22 dsaL_law_64_22 17 rfl)
theorem dL_law_1551 : decode cL_law 1551 = .ok (.iconst 2, 1) := (show decode cL_law (1529 + 22) = .ok (.iconst 2, 1) from dqs dskL_law_64_22 dsaL_law_64_22 18 rfl)
theorem dL_law_1552 : decode cL_law 1552 = .ok (.iadd, 1) := (show decode cL_law (1529 + 23) = .ok (.iadd, 1) from dqs dskL_law_64_22 dsaL_law_64_22 19 rfl)
theorem dL_law_1553 : decode cL_law 1553 = .ok (.iaload, 1) := (show decode cL_law (1529 + 24) = .ok (.iaload, 1) from dqs dskL_law_64_22 dsaL_law_64_22 20 rfl)
theorem dL_law_1554 : decode cL_law 1554 = .ok (.aload_n 0, 1) := (show decode cL_law (1529 + 25) = .ok (.aload_n 0, 1) from dqs dskL_law_64_22 dsaL_law_64_22 21 rfl)
theorem dL_law_1555 : decode cL_law 1555 = .ok (.iload_n 3, 1) := (show decode cL_law (1529 + 26) = .ok (.iload_n 3, 1) from dqs dskL_law_64_22 dsaL_law_64_22 22 rfl)
theorem dL_law_1556 : decode cL_law 1556 = .ok (.iconst 3, 1) := (show decode cL_law (1529 + 27) = .ok (.iconst 3, 1) from dqs dskL_law_64_22 dsaL_law_64_22 23 rfl)
theorem dL_law_1557 : decode cL_law 1557 = .ok (.iadd, 1) := (show decode cL_law (1529 + 28) = .ok (.iadd, 1) from dqs dskL_law_64_22 dsaL_law_64_22 24 rfl)
theorem dL_law_1558 : decode cL_law 1558 = .ok (.iaload, 1) := (show decode cL_law (1529 + 29) = .ok (.iaload, 1) from dqs dskL_law_64_22 dsaL_law_64_22 25 rfl)
theorem dL_law_1559 : decode cL_law 1559 = .ok (.aload_n 0, 1) := (show decode cL_law (1529 + 30) = .ok (.aload_n 0, 1) from dqs dskL_law_64_22 dsaL_law_64_22 26 rfl)
theorem dL_law_1560 : decode cL_law 1560 = .ok (.iload_n 3, 1) := (show decode cL_law (1529 + 31) = .ok (.iload_n 3, 1) from dqs dskL_law_64_22 dsaL_law_64_22 27 rfl)
theorem dL_law_1561 : decode cL_law 1561 = .ok (.iconst 4, 1) := (show decode cL_law (1529 + 32) = .ok (.iconst 4, 1) from dqs dskL_law_64_22 dsaL_law_64_22 28 rfl)
theorem dL_law_1562 : decode cL_law 1562 = .ok (.iadd, 1) := (show decode cL_law (1529 + 33) = .ok (.iadd, 1) from dqs dskL_law_64_22 dsaL_law_64_22 29 rfl)
theorem dL_law_1563 : decode cL_law 1563 = .ok (.iaload, 1) := (show decode cL_law (1529 + 34) = .ok (.iaload, 1) from dqs dskL_law_64_22 dsaL_law_64_22 30 rfl)
theorem dL_law_1564 : decode cL_law 1564 = .ok (.aload_n 0, 1) := (show decode cL_law (1529 + 35) = .ok (.aload_n 0, 1) from dqs dskL_law_64_22 dsaL_law_64_22 31 rfl)
theorem dL_law_1565 : decode cL_law 1565 = .ok (.iload_n 3, 1) := (show decode cL_law (1529 + 36) = .ok (.iload_n 3, 1) from dqs dskL_law_64_22 dsaL_law_64_22 32 rfl)
theorem dL_law_1566 : decode cL_law 1566 = .ok (.iconst 5, 1) := (show decode cL_law (1529 + 37) = .ok (.iconst 5, 1) from dqs dskL_law_64_22 dsaL_law_64_22 33 rfl)
theorem dL_law_1567 : decode cL_law 1567 = .ok (.iadd, 1) := (show decode cL_law (1529 + 38) = .ok (.iadd, 1) from dqs dskL_law_64_22 dsaL_law_64_22 34 rfl)
theorem dL_law_1568 : decode cL_law 1568 = .ok (.iaload, 1) := (show decode cL_law (1529 + 39) = .ok (.iaload, 1) from dqs dskL_law_64_22 dsaL_law_64_22 35 rfl)
theorem dL_law_1569 : decode cL_law 1569 = .ok (.aload_n 0, 1) := (show decode cL_law (1529 + 40) = .ok (.aload_n 0, 1) from dqs dskL_law_64_22 dsaL_law_64_22 36 rfl)
theorem dL_law_1570 : decode cL_law 1570 = .ok (.iload_n 3, 1) := (show decode cL_law (1529 + 41) = .ok (.iload_n 3, 1) from dqs dskL_law_64_22 dsaL_law_64_22 37 rfl)
theorem dL_law_1571 : decode cL_law 1571 = .ok (.bipush 6, 2) := (show decode cL_law (1529 + 42) = .ok (.bipush 6, 2) from dqs dskL_law_64_22 dsaL_law_64_22 38 rfl)
theorem dL_law_1573 : decode cL_law 1573 = .ok (.iadd, 1) := (show decode cL_law (1529 + 44) = .ok (.iadd, 1) from dqs dskL_law_64_22 dsaL_law_64_22 39 rfl)
theorem dL_law_1574 : decode cL_law 1574 = .ok (.iaload, 1) := (show decode cL_law (1529 + 45) = .ok (.iaload, 1) from dqs dskL_law_64_22 dsaL_law_64_22 40 rfl)
theorem dL_law_1575 : decode cL_law 1575 = .ok (.invokevirtual 148, 3) := (show decode cL_law (1529 + 46) = .ok (.invokevirtual 148, 3) from dqs dskL_law_64_22 dsaL_law_64_22 41 rfl)
theorem dL_law_1578 : decode cL_law 1578 = .ok (.pop, 1) := (show decode cL_law (1529 + 49) = .ok (.pop, 1) from dqs dskL_law_64_22 dsaL_law_64_22 42 rfl)
theorem dL_law_1579 : decode cL_law 1579 = .ok (.aload_n 2, 1) := (show decode cL_law (1529 + 50) = .ok (.aload_n 2, 1) from dqs dskL_law_64_22 dsaL_law_64_22 43 rfl)
theorem dL_law_1580 : decode cL_law 1580 = .ok (.aload_n 0, 1) := (show decode cL_law (1529 + 51) = .ok (.aload_n 0, 1) from dqs dskL_law_64_22 dsaL_law_64_22 44 rfl)
theorem dL_law_1581 : decode cL_law 1581 = .ok (.iload_n 3, 1) := (show decode cL_law (1529 + 52) = .ok (.iload_n 3, 1) from dqs dskL_law_64_22 dsaL_law_64_22 45 rfl)
theorem dL_law_1582 : decode cL_law 1582 = .ok (.iconst 1, 1) := (show decode cL_law (1529 + 53) = .ok (.iconst 1, 1) from dqs dskL_law_64_22 dsaL_law_64_22 46 rfl)
theorem dL_law_1583 : decode cL_law 1583 = .ok (.iadd, 1) := (show decode cL_law (1529 + 54) = .ok (.iadd, 1) from dqs dskL_law_64_22 dsaL_law_64_22 47 rfl)
theorem dL_law_1584 : decode cL_law 1584 = .ok (.iaload, 1) := (show decode cL_law (1529 + 55) = .ok (.iaload, 1) from dqs dskL_law_64_22 dsaL_law_64_22 48 rfl)
theorem dL_law_1585 : decode cL_law 1585 = .ok (.aload_n 0, 1) := (show decode cL_law (1529 + 56) = .ok (.aload_n 0, 1) from dqs dskL_law_64_22 dsaL_law_64_22 49 rfl)
theorem dL_law_1586 : decode cL_law 1586 = .ok (.iload_n 3, 1) := (show decode cL_law (1529 + 57) = .ok (.iload_n 3, 1) from dqs dskL_law_64_22 dsaL_law_64_22 50 rfl)
theorem dL_law_1587 : decode cL_law 1587 = .ok (.iconst 2, 1) := (show decode cL_law (1529 + 58) = .ok (.iconst 2, 1) from dqs dskL_law_64_22 dsaL_law_64_22 51 rfl)
theorem dL_law_1588 : decode cL_law 1588 = .ok (.iadd, 1) := (show decode cL_law (1529 + 59) = .ok (.iadd, 1) from dqs dskL_law_64_22 dsaL_law_64_22 52 rfl)
theorem dL_law_1589 : decode cL_law 1589 = .ok (.iaload, 1) := (show decode cL_law (1529 + 60) = .ok (.iaload, 1) from dqs dskL_law_64_22 dsaL_law_64_22 53 rfl)
theorem dL_law_1590 : decode cL_law 1590 = .ok (.aload_n 0, 1) := (show decode cL_law (1529 + 61) = .ok (.aload_n 0, 1) from dqs dskL_law_64_22 dsaL_law_64_22 54 rfl)
theorem dL_law_1591 : decode cL_law 1591 = .ok (.iload_n 3, 1) := (show decode cL_law (1529 + 62) = .ok (.iload_n 3, 1) from dqs dskL_law_64_22 dsaL_law_64_22 55 rfl)
theorem dL_law_1592 : decode cL_law 1592 = .ok (.iconst 3, 1) := (show decode cL_law (1529 + 63) = .ok (.iconst 3, 1) from dqs dskL_law_64_22 dsaL_law_64_22 56 rfl)
def dslL_law_64_23 : List UInt8 := [0x60, 0x2e, 0x2a, 0x1d, 0x07, 0x60, 0x2e, 0x2a, 0x1d, 0x08, 0x60, 0x2e, 0x2a, 0x1d, 0x10, 0x06, 0x60, 0x2e, 0xb6, 0x00, 0x97, 0x57, 0xa7, 0x00, 0x73, 0x2b, 0x2a, 0x1d, 0x04, 0x60, 0x2e, 0x2a, 0x1d, 0x05, 0x60, 0x2e, 0x2a, 0x1d, 0x06, 0x60, 0x2e, 0xb6, 0x00, 0x98, 0x57, 0x2c, 0x2a, 0x1d, 0x04, 0x60, 0x2e, 0x2a, 0x1d, 0x05, 0x60, 0x2e, 0x2a, 0x1d, 0x06, 0x60, 0x2e, 0xb6, 0x00, 0x9b]
theorem dskL_law_64_23 : (cL_law.data.toList.drop 1593).take 64 = dslL_law_64_23 := by decide +kernel
def dstL_law_64_23 : List (Nat × Jvm.ClassFile.Instr × Nat) := [(0, .iadd, 1), (1, .iaload, 1), (2, .aload_n 0, 1), (3, .iload_n 3, 1), (4, .iconst 4, 1), (5, .iadd, 1), (6, .iaload, 1), (7, .aload_n 0, 1), (8, .iload_n 3, 1), (9, .iconst 5, 1), (10, .iadd, 1), (11, .iaload, 1), (12, .aload_n 0, 1), (13, .iload_n 3, 1), (14, .bipush 6, 2), (16, .iadd, 1), (17, .iaload, 1), (18, .invokevirtual 151, 3), (21, .pop, 1), (22, .goto 115, 3), (25, .aload_n 1, 1), (26, .aload_n 0, 1), (27, .iload_n 3, 1), (28, .iconst 1, 1), (29, .iadd, 1), (30, .iaload, 1), (31, .aload_n 0, 1), (32, .iload_n 3, 1), (33, .iconst 2, 1), (34, .iadd, 1), (35, .iaload, 1), (36, .aload_n 0, 1), (37, .iload_n 3, 1), (38, .iconst 3, 1), (39, .iadd, 1), (40, .iaload, 1), (41, .invokevirtual 152, 3), (44, .pop, 1), (45, .aload_n 2, 1), (46, .aload_n 0, 1), (47, .iload_n 3, 1), (48, .iconst 1, 1), (49, .iadd, 1), (50, .iaload, 1), (51, .aload_n 0, 1), (52, .iload_n 3, 1), (53, .iconst 2, 1), (54, .iadd, 1), (55, .iaload, 1), (56, .aload_n 0, 1), (57, .iload_n 3, 1), (58, .iconst 3, 1), (59, .iadd, 1), (60, .iaload, 1), (61, .invokevirtual 155, 3)]
theorem dsaL_law_64_23 : dstL_law_64_23.all (dqs1 ⟨⟨dslL_law_64_23⟩⟩ 1593) = true := by decide +kernel
theorem dL_law_1593 : decode cL_law 1593 = .ok (.iadd, 1) := (show decode cL_law (1593 + 0) = .ok (.iadd, 1) from dqs dskL_law_64_23 dsaL_law_64_23 0 rfl)
theorem dL_law_1594 : decode cL_law 1594 = .ok (.iaload, 1) := (show decode cL_law (1593 + 1) = .ok (.iaload, 1) from dqs dskL_law_64_23 dsaL_law_64_23 1 rfl)
theorem dL_law_1595 : decode cL_law 1595 = .ok (.aload_n 0, 1) := (show decode cL_law (1593 + 2) = .ok (.aload_n 0, 1) from dqs dskL_law_64_23 dsaL_law_64_23 2 rfl)
theorem dL_law_1596 : decode cL_law 1596 = .ok (.iload_n 3, 1) := (show decode cL_law (1593 + 3) = .ok (.iload_n 3, 1) from dqs dskL_law_64_23 dsaL_law_64_23 3 rfl)
theorem dL_law_1597 : decode cL_law 1597 = .ok (.iconst 4, 1) := (show decode cL_law (1593 + 4) = .ok (.iconst 4, 1) from dqs dskL_law_64_23 dsaL_law_64_23 4 rfl)
theorem dL_law_1598 : decode cL_law 1598 = .ok (.iadd, 1) := (show decode cL_law (1593 + 5) = .ok (.iadd, 1) from dqs dskL_law_64_23 dsaL_law_64_23 5 rfl)
theorem dL_law_1599 : decode cL_law 1599 = .ok (.iaload, 1) := (show decode cL_law (1593 + 6) = .ok (.iaload, 1) from dqs dskL_law_64_23 dsaL_law_64_23 6 rfl)
theorem dL_law_1600 : decode cL_law 1600 = .ok (.aload_n 0, 1) := (show decode cL_law (1593 + 7) = .ok (.aload_n 0, 1) from dqs dskL_law_64_23 dsaL_law_64_23 7 rfl)
theorem dL_law_1601 : decode cL_law 1601 = .ok (.iload_n 3, 1) := (show decode cL_law (1593 + 8) = .ok (.iload_n 3, 1) from dqs dskL_law_64_23 dsaL_law_64_23 8 rfl)
theorem dL_law_1602 : decode cL_law 1602 = .ok (.iconst 5, 1) := (show decode cL_law (1593 + 9) = .ok (.iconst 5, 1) from dqs dskL_law_64_23 dsaL_law_64_23 9 rfl)
theorem dL_law_1603 : decode cL_law 1603 = .ok (.iadd, 1) := (show decode cL_law (1593 + 10) = .ok (.iadd, 1) from dqs dskL_law_64_23 dsaL_law_64_23 10 rfl)
theorem dL_law_1604 : decode cL_law 1604 = .ok (.iaload, 1) := (show decode cL_law (1593 + 11) = .ok (.iaload, 1) from dqs dskL_law_64_23 dsaL_law_64_23 11 rfl)
theorem dL_law_1605 : decode cL_law 1605 = .ok (.aload_n 0, 1) := (show decode cL_law (1593 + 12) = .ok (.aload_n 0, 1) from dqs dskL_law_64_23 dsaL_law_64_23 12 rfl)
theorem dL_law_1606 : decode cL_law 1606 = .ok (.iload_n 3, 1) := (show decode cL_law (1593 + 13) = .ok (.iload_n 3, 1) from dqs dskL_law_64_23 dsaL_law_64_23 13 rfl)
theorem dL_law_1607 : decode cL_law 1607 = .ok (.bipush 6, 2) := (show decode cL_law (1593 + 14) = .ok (.bipush 6, 2) from dqs dskL_law_64_23 dsaL_law_64_23 14 rfl)
theorem dL_law_1609 : decode cL_law 1609 = .ok (.iadd, 1) := (show decode cL_law (1593 + 16) = .ok (.iadd, 1) from dqs dskL_law_64_23 dsaL_law_64_23 15 rfl)
theorem dL_law_1610 : decode cL_law 1610 = .ok (.iaload, 1) := (show decode cL_law (1593 + 17) = .ok (.iaload, 1) from dqs dskL_law_64_23 dsaL_law_64_23 16 rfl)
theorem dL_law_1611 : decode cL_law 1611 = .ok (.invokevirtual 151, 3) := (show decode cL_law (1593 + 18) = .ok (.invokevirtual 151, 3) from dqs dskL_law_64_23 dsaL_law_64_23 17 rfl)
theorem dL_law_1614 : decode cL_law 1614 = .ok (.pop, 1) := (show decode cL_law (1593 + 21) = .ok (.pop, 1) from dqs dskL_law_64_23 dsaL_law_64_23 18 rfl)
theorem dL_law_1615 : decode cL_law 1615 = .ok (.goto 115, 3) := (show decode cL_law (1593 + 22) = .ok (.goto 115, 3) from dqs dskL_law_64_23 dsaL_law_64_23 19 rfl)
theorem dL_law_1618 : decode cL_law 1618 = .ok (.aload_n 1, 1) := (show decode cL_law (1593 + 25) = .ok (.aload_n 1, 1) from dqs dskL_law_64_23 dsaL_law_64_23 20 rfl)
theorem dL_law_1619 : decode cL_law 1619 = .ok (.aload_n 0, 1) := (show decode cL_law (1593 + 26) = .ok (.aload_n 0, 1) from dqs dskL_law_64_23 dsaL_law_64_23 21 rfl)
theorem dL_law_1620 : decode cL_law 1620 = .ok (.iload_n 3, 1) := (show decode cL_law (1593 + 27) = .ok (.iload_n 3, 1) from dqs dskL_law_64_23 dsaL_law_64_23 22 rfl)
theorem dL_law_1621 : decode cL_law 1621 = .ok (.iconst 1, 1) := (show decode cL_law (1593 + 28) = .ok (.iconst 1, 1) from dqs dskL_law_64_23 dsaL_law_64_23 23 rfl)
theorem dL_law_1622 : decode cL_law 1622 = .ok (.iadd, 1) := (show decode cL_law (1593 + 29) = .ok (.iadd, 1) from dqs dskL_law_64_23 dsaL_law_64_23 24 rfl)
theorem dL_law_1623 : decode cL_law 1623 = .ok (.iaload, 1) := (show decode cL_law (1593 + 30) = .ok (.iaload, 1) from dqs dskL_law_64_23 dsaL_law_64_23 25 rfl)
theorem dL_law_1624 : decode cL_law 1624 = .ok (.aload_n 0, 1) := (show decode cL_law (1593 + 31) = .ok (.aload_n 0, 1) from dqs dskL_law_64_23 dsaL_law_64_23 26 rfl)
theorem dL_law_1625 : decode cL_law 1625 = .ok (.iload_n 3, 1) := (show decode cL_law (1593 + 32) = .ok (.iload_n 3, 1) from dqs dskL_law_64_23 dsaL_law_64_23 27 rfl)
theorem dL_law_1626 : decode cL_law 1626 = .ok (.iconst 2, 1) := (show decode cL_law (1593 + 33) = .ok (.iconst 2, 1) from dqs dskL_law_64_23 dsaL_law_64_23 28 rfl)
theorem dL_law_1627 : decode cL_law 1627 = .ok (.iadd, 1) := (show decode cL_law (1593 + 34) = .ok (.iadd, 1) from dqs dskL_law_64_23 dsaL_law_64_23 29 rfl)
theorem dL_law_1628 : decode cL_law 1628 = .ok (.iaload, 1) := (show decode cL_law (1593 + 35) = .ok (.iaload, 1) from dqs dskL_law_64_23 dsaL_law_64_23 30 rfl)
theorem dL_law_1629 : decode cL_law 1629 = .ok (.aload_n 0, 1) := (show decode cL_law (1593 + 36) = .ok (.aload_n 0, 1) from dqs dskL_law_64_23 dsaL_law_64_23 31 rfl)
theorem dL_law_1630 : decode cL_law 1630 = .ok (.iload_n 3, 1) := (show decode cL_law (1593 + 37) = .ok (.iload_n 3, 1) from dqs dskL_law_64_23 dsaL_law_64_23 32 rfl)
theorem dL_law_1631 : decode cL_law 1631 = .ok (.iconst 3, 1) := (show decode cL_law (1593 + 38) = .ok (.iconst 3, 1) from dqs dskL_law_64_23 dsaL_law_64_23 33 rfl)
theorem dL_law_1632 : decode cL_law 1632 = .ok (.iadd, 1) := (show decode cL_law (1593 + 39) = .ok (.iadd, 1) from dqs dskL_law_64_23 dsaL_law_64_23 34 rfl)
theorem dL_law_1633 : decode cL_law 1633 = .ok (.iaload, 1) := (show decode cL_law (1593 + 40) = .ok (.iaload, 1) from dqs dskL_law_64_23 dsaL_law_64_23 35 rfl)
theorem dL_law_1634 : decode cL_law 1634 = .ok (.invokevirtual 152, 3) := (show decode cL_law (1593 + 41) = .ok (.invokevirtual 152, 3) from dqs dskL_law_64_23 dsaL_law_64_23 36 rfl)
theorem dL_law_1637 : decode cL_law 1637 = .ok (.pop, 1) := (show decode cL_law (1593 + 44) = .ok (.pop, 1) from dqs dskL_law_64_23 dsaL_law_64_23 37 rfl)
theorem dL_law_1638 : decode cL_law 1638 = .ok (.aload_n 2, 1) := (show decode cL_law (1593 + 45) = .ok (.aload_n 2, 1) from dqs dskL_law_64_23 dsaL_law_64_23 38 rfl)
theorem dL_law_1639 : decode cL_law 1639 = .ok (.aload_n 0, 1) := (show decode cL_law (1593 + 46) = .ok (.aload_n 0, 1) from dqs dskL_law_64_23 dsaL_law_64_23 39 rfl)
theorem dL_law_1640 : decode cL_law 1640 = .ok (.iload_n 3, 1) := (show decode cL_law (1593 + 47) = .ok (.iload_n 3, 1) from dqs dskL_law_64_23 dsaL_law_64_23 40 rfl)
theorem dL_law_1641 : decode cL_law 1641 = .ok (.iconst 1, 1) := (show decode cL_law (1593 + 48) = .ok (.iconst 1, 1) from dqs dskL_law_64_23 dsaL_law_64_23 41 rfl)
theorem dL_law_1642 : decode cL_law 1642 = .ok (.iadd, 1) := (show decode cL_law (1593 + 49) = .ok (.iadd, 1) from dqs dskL_law_64_23 dsaL_law_64_23 42 rfl)
theorem dL_law_1643 : decode cL_law 1643 = .ok (.iaload, 1) := (show decode cL_law (1593 + 50) = .ok (.iaload, 1) from dqs dskL_law_64_23 dsaL_law_64_23 43 rfl)
theorem dL_law_1644 : decode cL_law 1644 = .ok (.aload_n 0, 1) := (show decode cL_law (1593 + 51) = .ok (.aload_n 0, 1) from dqs dskL_law_64_23 dsaL_law_64_23 44 rfl)
theorem dL_law_1645 : decode cL_law 1645 = .ok (.iload_n 3, 1) := (show decode cL_law (1593 + 52) = .ok (.iload_n 3, 1) from dqs dskL_law_64_23 dsaL_law_64_23 45 rfl)
theorem dL_law_1646 : decode cL_law 1646 = .ok (.iconst 2, 1) := (show decode cL_law (1593 + 53) = .ok (.iconst 2, 1) from dqs dskL_law_64_23 dsaL_law_64_23 46 rfl)
theorem dL_law_1647 : decode cL_law 1647 = .ok (.iadd, 1) := (show decode cL_law (1593 + 54) = .ok (.iadd, 1) from dqs dskL_law_64_23 dsaL_law_64_23 47 rfl)
theorem dL_law_1648 : decode cL_law 1648 = .ok (.iaload, 1) := (show decode cL_law (1593 + 55) = .ok (.iaload, 1) from dqs dskL_law_64_23 dsaL_law_64_23 48 rfl)
theorem dL_law_1649 : decode cL_law 1649 = .ok (.aload_n 0, 1) := (show decode cL_law (1593 + 56) = .ok (.aload_n 0, 1) from dqs dskL_law_64_23 dsaL_law_64_23 49 rfl)
theorem dL_law_1650 : decode cL_law 1650 = .ok (.iload_n 3, 1) := (show decode cL_law (1593 + 57) = .ok (.iload_n 3, 1) from dqs dskL_law_64_23 dsaL_law_64_23 50 rfl)
theorem dL_law_1651 : decode cL_law 1651 = .ok (.iconst 3, 1) := (show decode cL_law (1593 + 58) = .ok (.iconst 3, 1) from dqs dskL_law_64_23 dsaL_law_64_23 51 rfl)
theorem dL_law_1652 : decode cL_law 1652 = .ok (.iadd, 1) := (show decode cL_law (1593 + 59) = .ok (.iadd, 1) from dqs dskL_law_64_23 dsaL_law_64_23 52 rfl)
theorem dL_law_1653 : decode cL_law 1653 = .ok (.iaload, 1) := (show decode cL_law (1593 + 60) = .ok (.iaload, 1) from dqs dskL_law_64_23 dsaL_law_64_23 53 rfl)
theorem dL_law_1654 : decode cL_law 1654 = .ok (.invokevirtual 155, 3) := (show decode cL_law (1593 + 61) = .ok (.invokevirtual 155, 3) from dqs dskL_law_64_23 dsaL_law_64_23 54 rfl)
def dslL_law_64_24 : List UInt8 := [0x57, 0xa7, 0x00, 0x48, 0x2b, 0x2a, 0x1d, 0x04, 0x60, 0x2e, 0xb6, 0x00, 0x9c, 0x57, 0x2c, 0x2a, 0x1d, 0x04, 0x60, 0x2e, 0xb6, 0x00, 0x9f, 0x57, 0xa7, 0x00, 0x31, 0x2b, 0x2a, 0x1d, 0x04, 0x60, 0x2e, 0xb6, 0x00, 0xa0, 0x57, 0x2c, 0x2a, 0x1d, 0x04, 0x60, 0x2e, 0xb6, 0x00, 0xa3, 0x57, 0xa7, 0x00, 0x1a, 0x2b, 0x2a, 0x1d, 0x04, 0x60, 0x2e, 0xb6, 0x00, 0xa4, 0x57, 0x2c, 0x2a, 0x1d, 0x04]
theorem dskL_law_64_24 : (cL_law.data.toList.drop 1657).take 64 = dslL_law_64_24 := by decide +kernel
def dstL_law_64_24 : List (Nat × Jvm.ClassFile.Instr × Nat) := [(0, .pop, 1), (1, .goto 72, 3), (4, .aload_n 1, 1), (5, .aload_n 0, 1), (6, .iload_n 3, 1), (7, .iconst 1, 1), (8, .iadd, 1), (9, .iaload, 1), (10, .invokevirtual 156, 3), (13, .pop, 1), (14, .aload_n 2, 1), (15, .aload_n 0, 1), (16, .iload_n 3, 1), (17, .iconst 1, 1), (18, .iadd, 1), (19, .iaload, 1), (20, .invokevirtual 159, 3), (23, .pop, 1), (24, .goto 49, 3), (27, .aload_n 1, 1), (28, .aload_n 0, 1), (29, .iload_n 3, 1), (30, .iconst 1, 1), (31, .iadd, 1), (32, .iaload, 1), (33, .invokevirtual 160, 3), (36, .pop, 1), (37, .aload_n 2, 1), (38, .aload_n 0, 1), (39, .iload_n 3, 1), (40, .iconst 1, 1), (41, .iadd, 1), (42, .iaload, 1), (43, .invokevirtual 163, 3), (46, .pop, 1), (47, .goto 26, 3), (50, .aload_n 1, 1), (51, .aload_n 0, 1), (52, .iload_n 3, 1), (53, .iconst 1, 1), (54, .iadd, 1), (55, .iaload, 1), (56, .invokevirtual 164, 3), (59, .pop, 1), (60, .aload_n 2, 1), (61, .aload_n 0, 1), (62, .iload_n 3, 1), (63, .iconst 1, 1)]
theorem dsaL_law_64_24 : dstL_law_64_24.all (dqs1 ⟨⟨dslL_law_64_24⟩⟩ 1657) = true := by decide +kernel
theorem dL_law_1657 : decode cL_law 1657 = .ok (.pop, 1) := (show decode cL_law (1657 + 0) = .ok (.pop, 1) from dqs dskL_law_64_24 dsaL_law_64_24 0 rfl)
theorem dL_law_1658 : decode cL_law 1658 = .ok (.goto 72, 3) := (show decode cL_law (1657 + 1) = .ok (.goto 72, 3) from dqs dskL_law_64_24 dsaL_law_64_24 1 rfl)
theorem dL_law_1661 : decode cL_law 1661 = .ok (.aload_n 1, 1) := (show decode cL_law (1657 + 4) = .ok (.aload_n 1, 1) from dqs dskL_law_64_24 dsaL_law_64_24 2 rfl)
theorem dL_law_1662 : decode cL_law 1662 = .ok (.aload_n 0, 1) := (show decode cL_law (1657 + 5) = .ok (.aload_n 0, 1) from dqs dskL_law_64_24 dsaL_law_64_24 3 rfl)
theorem dL_law_1663 : decode cL_law 1663 = .ok (.iload_n 3, 1) := (show decode cL_law (1657 + 6) = .ok (.iload_n 3, 1) from dqs dskL_law_64_24 dsaL_law_64_24 4 rfl)
theorem dL_law_1664 : decode cL_law 1664 = .ok (.iconst 1, 1) := (show decode cL_law (1657 + 7) = .ok (.iconst 1, 1) from dqs dskL_law_64_24 dsaL_law_64_24 5 rfl)
theorem dL_law_1665 : decode cL_law 1665 = .ok (.iadd, 1) := (show decode cL_law (1657 + 8) = .ok (.iadd, 1) from dqs dskL_law_64_24 dsaL_law_64_24 6 rfl)
theorem dL_law_1666 : decode cL_law 1666 = .ok (.iaload, 1) := (show decode cL_law (1657 + 9) = .ok (.iaload, 1) from dqs dskL_law_64_24 dsaL_law_64_24 7 rfl)
theorem dL_law_1667 : decode cL_law 1667 = .ok (.invokevirtual 156, 3) := (show decode cL_law (1657 + 10) = .ok (.invokevirtual 156, 3) from dqs dskL_law_64_24 dsaL_law_64_24 8 rfl)
theorem dL_law_1670 : decode cL_law 1670 = .ok (.pop, 1) := (show decode cL_law (1657 + 13) = .ok (.pop, 1) from dqs dskL_law_64_24 dsaL_law_64_24 9 rfl)
theorem dL_law_1671 : decode cL_law 1671 = .ok (.aload_n 2, 1) := (show decode cL_law (1657 + 14) = .ok (.aload_n 2, 1) from dqs dskL_law_64_24 dsaL_law_64_24 10 rfl)
theorem dL_law_1672 : decode cL_law 1672 = .ok (.aload_n 0, 1) := (show decode cL_law (1657 + 15) = .ok (.aload_n 0, 1) from dqs dskL_law_64_24 dsaL_law_64_24 11 rfl)
theorem dL_law_1673 : decode cL_law 1673 = .ok (.iload_n 3, 1) := (show decode cL_law (1657 + 16) = .ok (.iload_n 3, 1) from dqs dskL_law_64_24 dsaL_law_64_24 12 rfl)
theorem dL_law_1674 : decode cL_law 1674 = .ok (.iconst 1, 1) := (show decode cL_law (1657 + 17) = .ok (.iconst 1, 1) from dqs dskL_law_64_24 dsaL_law_64_24 13 rfl)
theorem dL_law_1675 : decode cL_law 1675 = .ok (.iadd, 1) := (show decode cL_law (1657 + 18) = .ok (.iadd, 1) from dqs dskL_law_64_24 dsaL_law_64_24 14 rfl)
theorem dL_law_1676 : decode cL_law 1676 = .ok (.iaload, 1) := (show decode cL_law (1657 + 19) = .ok (.iaload, 1) from dqs dskL_law_64_24 dsaL_law_64_24 15 rfl)
theorem dL_law_1677 : decode cL_law 1677 = .ok (.invokevirtual 159, 3) := (show decode cL_law (1657 + 20) = .ok (.invokevirtual 159, 3) from dqs dskL_law_64_24 dsaL_law_64_24 16 rfl)
theorem dL_law_1680 : decode cL_law 1680 = .ok (.pop, 1) := (show decode cL_law (1657 + 23) = .ok (.pop, 1) from dqs dskL_law_64_24 dsaL_law_64_24 17 rfl)
theorem dL_law_1681 : decode cL_law 1681 = .ok (.goto 49, 3) := (show decode cL_law (1657 + 24) = .ok (.goto 49, 3) from dqs dskL_law_64_24 dsaL_law_64_24 18 rfl)
theorem dL_law_1684 : decode cL_law 1684 = .ok (.aload_n 1, 1) := (show decode cL_law (1657 + 27) = .ok (.aload_n 1, 1) from dqs dskL_law_64_24 dsaL_law_64_24 19 rfl)
theorem dL_law_1685 : decode cL_law 1685 = .ok (.aload_n 0, 1) := (show decode cL_law (1657 + 28) = .ok (.aload_n 0, 1) from dqs dskL_law_64_24 dsaL_law_64_24 20 rfl)
theorem dL_law_1686 : decode cL_law 1686 = .ok (.iload_n 3, 1) := (show decode cL_law (1657 + 29) = .ok (.iload_n 3, 1) from dqs dskL_law_64_24 dsaL_law_64_24 21 rfl)
theorem dL_law_1687 : decode cL_law 1687 = .ok (.iconst 1, 1) := (show decode cL_law (1657 + 30) = .ok (.iconst 1, 1) from dqs dskL_law_64_24 dsaL_law_64_24 22 rfl)
theorem dL_law_1688 : decode cL_law 1688 = .ok (.iadd, 1) := (show decode cL_law (1657 + 31) = .ok (.iadd, 1) from dqs dskL_law_64_24 dsaL_law_64_24 23 rfl)
theorem dL_law_1689 : decode cL_law 1689 = .ok (.iaload, 1) := (show decode cL_law (1657 + 32) = .ok (.iaload, 1) from dqs dskL_law_64_24 dsaL_law_64_24 24 rfl)
theorem dL_law_1690 : decode cL_law 1690 = .ok (.invokevirtual 160, 3) := (show decode cL_law (1657 + 33) = .ok (.invokevirtual 160, 3) from dqs dskL_law_64_24 dsaL_law_64_24 25 rfl)
theorem dL_law_1693 : decode cL_law 1693 = .ok (.pop, 1) := (show decode cL_law (1657 + 36) = .ok (.pop, 1) from dqs dskL_law_64_24 dsaL_law_64_24 26 rfl)
theorem dL_law_1694 : decode cL_law 1694 = .ok (.aload_n 2, 1) := (show decode cL_law (1657 + 37) = .ok (.aload_n 2, 1) from dqs dskL_law_64_24 dsaL_law_64_24 27 rfl)
theorem dL_law_1695 : decode cL_law 1695 = .ok (.aload_n 0, 1) := (show decode cL_law (1657 + 38) = .ok (.aload_n 0, 1) from dqs dskL_law_64_24 dsaL_law_64_24 28 rfl)
theorem dL_law_1696 : decode cL_law 1696 = .ok (.iload_n 3, 1) := (show decode cL_law (1657 + 39) = .ok (.iload_n 3, 1) from dqs dskL_law_64_24 dsaL_law_64_24 29 rfl)
theorem dL_law_1697 : decode cL_law 1697 = .ok (.iconst 1, 1) := (show decode cL_law (1657 + 40) = .ok (.iconst 1, 1) from dqs dskL_law_64_24 dsaL_law_64_24 30 rfl)
theorem dL_law_1698 : decode cL_law 1698 = .ok (.iadd, 1) := (show decode cL_law (1657 + 41) = .ok (.iadd, 1) from dqs dskL_law_64_24 dsaL_law_64_24 31 rfl)
theorem dL_law_1699 : decode cL_law 1699 = .ok (.iaload, 1) := (show decode cL_law (1657 + 42) = .ok (.iaload, 1) from dqs dskL_law_64_24 dsaL_law_64_24 32 rfl)
theorem dL_law_1700 : decode cL_law 1700 = .ok (.invokevirtual 163, 3) := (show decode cL_law (1657 + 43) = .ok (.invokevirtual 163, 3) from dqs dskL_law_64_24 dsaL_law_64_24 33 rfl)
theorem dL_law_1703 : decode cL_law 1703 = .ok (.pop, 1) := (show decode cL_law (1657 + 46) = .ok (.pop, 1) from dqs dskL_law_64_24 dsaL_law_64_24 34 rfl)
theorem dL_law_1704 : decode cL_law 1704 = .ok (.goto 26, 3) := (show decode cL_law (1657 + 47) = .ok (.goto 26, 3) from dqs dskL_law_64_24 dsaL_law_64_24 35 rfl)
theorem dL_law_1707 : decode cL_law 1707 = .ok (.aload_n 1, 1) := (show decode cL_law (1657 + 50) = .ok (.aload_n 1, 1) from dqs dskL_law_64_24 dsaL_law_64_24 36 rfl)
theorem dL_law_1708 : decode cL_law 1708 = .ok (.aload_n 0, 1) := (show decode cL_law (1657 + 51) = .ok (.aload_n 0, 1) from dqs dskL_law_64_24 dsaL_law_64_24 37 rfl)
theorem dL_law_1709 : decode cL_law 1709 = .ok (.iload_n 3, 1) := (show decode cL_law (1657 + 52) = .ok (.iload_n 3, 1) from dqs dskL_law_64_24 dsaL_law_64_24 38 rfl)
theorem dL_law_1710 : decode cL_law 1710 = .ok (.iconst 1, 1) := (show decode cL_law (1657 + 53) = .ok (.iconst 1, 1) from dqs dskL_law_64_24 dsaL_law_64_24 39 rfl)
theorem dL_law_1711 : decode cL_law 1711 = .ok (.iadd, 1) := (show decode cL_law (1657 + 54) = .ok (.iadd, 1) from dqs dskL_law_64_24 dsaL_law_64_24 40 rfl)
theorem dL_law_1712 : decode cL_law 1712 = .ok (.iaload, 1) := (show decode cL_law (1657 + 55) = .ok (.iaload, 1) from dqs dskL_law_64_24 dsaL_law_64_24 41 rfl)
theorem dL_law_1713 : decode cL_law 1713 = .ok (.invokevirtual 164, 3) := (show decode cL_law (1657 + 56) = .ok (.invokevirtual 164, 3) from dqs dskL_law_64_24 dsaL_law_64_24 42 rfl)
theorem dL_law_1716 : decode cL_law 1716 = .ok (.pop, 1) := (show decode cL_law (1657 + 59) = .ok (.pop, 1) from dqs dskL_law_64_24 dsaL_law_64_24 43 rfl)
theorem dL_law_1717 : decode cL_law 1717 = .ok (.aload_n 2, 1) := (show decode cL_law (1657 + 60) = .ok (.aload_n 2, 1) from dqs dskL_law_64_24 dsaL_law_64_24 44 rfl)
theorem dL_law_1718 : decode cL_law 1718 = .ok (.aload_n 0, 1) := (show decode cL_law (1657 + 61) = .ok (.aload_n 0, 1) from dqs dskL_law_64_24 dsaL_law_64_24 45 rfl)
theorem dL_law_1719 : decode cL_law 1719 = .ok (.iload_n 3, 1) := (show decode cL_law (1657 + 62) = .ok (.iload_n 3, 1) from dqs dskL_law_64_24 dsaL_law_64_24 46 rfl)
theorem dL_law_1720 : decode cL_law 1720 = .ok (.iconst 1, 1) := (show decode cL_law (1657 + 63) = .ok (.iconst 1, 1) from dqs dskL_law_64_24 dsaL_law_64_24 47 rfl)
def dslL_law_64_25 : List UInt8 := [0x60, 0x2e, 0xb6, 0x00, 0xa7, 0x57, 0xa7, 0x00, 0x03, 0x84, 0x03, 0x0a, 0xa7, 0xf9, 0x4d, 0x04, 0xac]
theorem dskL_law_64_25 : (cL_law.data.toList.drop 1721).take 17 = dslL_law_64_25 := by decide +kernel
def dstL_law_64_25 : List (Nat × Jvm.ClassFile.Instr × Nat) := [(0, .iadd, 1), (1, .iaload, 1), (2, .invokevirtual 167, 3), (5, .pop, 1), (6, .goto 3, 3), (9, .iinc 3 10, 3), (12, .goto (-1715), 3), (15, .iconst 1, 1), (16, .ireturn, 1)]
theorem dsaL_law_64_25 : dstL_law_64_25.all (dqs1 ⟨⟨dslL_law_64_25⟩⟩ 1721) = true := by decide +kernel
theorem dL_law_1721 : decode cL_law 1721 = .ok (.iadd, 1) := (show decode cL_law (1721 + 0) = .ok (.iadd, 1) from dqs dskL_law_64_25 dsaL_law_64_25 0 rfl)
theorem dL_law_1722 : decode cL_law 1722 = .ok (.iaload, 1) := (show decode cL_law (1721 + 1) = .ok (.iaload, 1) from dqs dskL_law_64_25 dsaL_law_64_25 1 rfl)
theorem dL_law_1723 : decode cL_law 1723 = .ok (.invokevirtual 167, 3) := (show decode cL_law (1721 + 2) = .ok (.invokevirtual 167, 3) from dqs dskL_law_64_25 dsaL_law_64_25 2 rfl)
theorem dL_law_1726 : decode cL_law 1726 = .ok (.pop, 1) := (show decode cL_law (1721 + 5) = .ok (.pop, 1) from dqs dskL_law_64_25 dsaL_law_64_25 3 rfl)
theorem dL_law_1727 : decode cL_law 1727 = .ok (.goto 3, 3) := (show decode cL_law (1721 + 6) = .ok (.goto 3, 3) from dqs dskL_law_64_25 dsaL_law_64_25 4 rfl)
theorem dL_law_1730 : decode cL_law 1730 = .ok (.iinc 3 10, 3) := (show decode cL_law (1721 + 9) = .ok (.iinc 3 10, 3) from dqs dskL_law_64_25 dsaL_law_64_25 5 rfl)
theorem dL_law_1733 : decode cL_law 1733 = .ok (.goto (-1715), 3) := (show decode cL_law (1721 + 12) = .ok (.goto (-1715), 3) from dqs dskL_law_64_25 dsaL_law_64_25 6 rfl)
theorem dL_law_1736 : decode cL_law 1736 = .ok (.iconst 1, 1) := (show decode cL_law (1721 + 15) = .ok (.iconst 1, 1) from dqs dskL_law_64_25 dsaL_law_64_25 7 rfl)
theorem dL_law_1737 : decode cL_law 1737 = .ok (.ireturn, 1) := (show decode cL_law (1721 + 16) = .ok (.ireturn, 1) from dqs dskL_law_64_25 dsaL_law_64_25 8 rfl)
def dtL_law_64_0 : List (Nat × Jvm.ClassFile.Instr × Nat) := [(623, .if_icmp .eq 1107, 3), (24, .if_icmp .gt 1712, 3), (33, .tableswitch 1697 0 35 #[159, 202, 265, 328, 351, 374, 437, 460, 473, 506, 529, 562, 595, 628, 661, 694, 727, 750, 773, 848, 947, 980, 1013, 1088, 1199, 1252, 1295, 1328, 1371, 1414, 1447, 1510, 1585, 1628, 1651, 1674], 159)]
theorem daL_law_64_0 : dtL_law_64_0.all (dqd cL_law) = true := by decide +kernel
theorem dL_law_623 : decode cL_law 623 = .ok (.if_icmp .eq 1107, 3) := dq daL_law_64_0 0 rfl
theorem dL_law_24 : decode cL_law 24 = .ok (.if_icmp .gt 1712, 3) := dq daL_law_64_0 1 rfl
theorem dL_law_33 : decode cL_law 33 = .ok (.tableswitch 1697 0 35 #[159, 202, 265, 328, 351, 374, 437, 460, 473, 506, 529, 562, 595, 628, 661, 694, 727, 750, 773, 848, 947, 980, 1013, 1088, 1199, 1252, 1295, 1328, 1371, 1414, 1447, 1510, 1585, 1628, 1651, 1674], 159) := dq daL_law_64_0 2 rfl
set_option maxHeartbeats 4000000 in
set_option maxRecDepth 100000 in
theorem law_c0 {p : Program} {l : Launch} {e : Env} {s : State} {m : MethodId} {below : List Frame} {meth : Method} {c : Code} {b L : Nat} {xs : Nat → Int32} {dC : Nat → ClassId} {dI : Nat → Nat → Nat} {kA : Nat → ClassId} {aS vS : Nat} {oS : Option Nat} {x0 n0 : Nat} (C0 : lw_At p s m meth c b L xs) (hL : L ≤ 5120) (hK : zK dC dI kA s) (hZ : zStr aS vS oS (fun q : Nat => s.heap.size ≤ q) s s.heap) {i : Int32} (hi : 0 ≤ i.toInt ∧ i.toInt + 10 ≤ L) {cells slots : Nat} (hc : cells + 40 ≤ 600000) (hs : slots + 2000 ≤ 7302249) (kk : ∀ (wx wm : va_W) (H : Heap) (locs : List Loc) (ls : Array Slot), LInv kA x0 n0 wx wm → va_P (dC, dI) vwCl (wx ++ wm) H → va_D (fun q : Nat => s.heap.size ≤ q) (wx ++ wm) → va_S (fun q : Nat => s.heap.size ≤ q) s.heap H locs → lv_has ls 4 [(3, .int i), (2, .ref n0), (1, .ref x0), (0, .ref b)] → W p l e room_1 s m #[Value.ref b] below meth c H locs (cells + 40) (slots + 2000) (lw_Z below #[Value.ref b] s) (F0 m 1730 ls [])) (wx wm : va_W) (H : Heap) (locs : List Loc) (ls : Array Slot) (hI : LInv kA x0 n0 wx wm) (hP : va_P (dC, dI) vwCl (wx ++ wm) H) (hD : va_D (fun q : Nat => s.heap.size ≤ q) (wx ++ wm)) (hS : va_S (fun q : Nat => s.heap.size ≤ q) s.heap H locs) (hl : lv_has ls 4 [(3, .int i), (2, .ref n0), (1, .ref x0), (0, .ref b)]) : W p l e room_1 s m #[Value.ref b] below meth c H locs cells slots (lw_Z below #[Value.ref b] s) (F0 m 192 ls []) := by
  obtain ⟨hx, hb, hr, hml, hown0, hts0, hX, hbl, hlocks, hgv⟩ := C0
  have hown : s.vm.findClass RL = some m.cls := hown0
  have hts : ∀ w ∈ wsL_law, w.before #[Value.ref b] s = true := fun w h => hts0 w (wsL_law_in w h)
  have hA : ∀ q : Nat, s.heap.size ≤ q → (fun q : Nat => s.heap.size ≤ q) q := fun _ h => h
  have hbA : ¬ (fun q : Nat => s.heap.size ≤ q) b := Nat.not_le.mpr hbl
  obtain ⟨S_, LL, im, hX0, hM0⟩ := hI
  have hgd := MOK4_gd hM0
  have hxt := MOK4_xt hM0
  have hgr := MOK4_gr hM0
  have hgx := MOK4_gx hM0
  have hc1 : cells + 20 ≤ room_1.cells := by show cells + 20 ≤ 600000; omega
  have hs1 : slots + 1000 ≤ room_1.slots := by show slots + 1000 ≤ 7302249; omega
  have hc2 : cells + 20 + 20 ≤ room_1.cells := by show cells + 20 + 20 ≤ 600000; omega
  have hs2 : slots + 1000 + 1000 ≤ room_1.slots := by show slots + 1000 + 1000 ≤ 7302249; omega
  obtain ⟨a1, ea1⟩ : ∃ y : Int32, y = xs (i + 1).toNatClampNeg := ⟨_, rfl⟩
  obtain ⟨a2, ea2⟩ : ∃ y : Int32, y = xs (i + 2).toNatClampNeg := ⟨_, rfl⟩
  obtain ⟨a3, ea3⟩ : ∃ y : Int32, y = xs (i + 3).toNatClampNeg := ⟨_, rfl⟩
  refine lv_aload_n hx hb dL_law_192 rfl (lv_at hl 2 rfl) ?_
  refine lv_aload_n hx hb dL_law_193 rfl (lv_at hl 3 rfl) ?_
  refine lv_iload_n hx hb dL_law_194 rfl (lv_at hl 0 rfl) ?_
  refine lv_iconst (v := 1) hx hb dL_law_195 (by decide) ?_
  refine lv_iadd hx hb dL_law_196 ?_
  refine va_sld hx hb hX hbl hbA hS (z_sc hi hL (n := 1) (by decide) (by decide)) dL_law_197 ?_
  refine zi a1 ea1.symm ?_
  refine lv_aload_n hx hb dL_law_198 rfl (lv_at hl 3 rfl) ?_
  refine lv_iload_n hx hb dL_law_199 rfl (lv_at hl 0 rfl) ?_
  refine lv_iconst (v := 2) hx hb dL_law_200 (by decide) ?_
  refine lv_iadd hx hb dL_law_201 ?_
  refine va_sld hx hb hX hbl hbA hS (z_sc hi hL (n := 2) (by decide) (by decide)) dL_law_202 ?_
  refine zi a2 ea2.symm ?_
  refine lv_aload_n hx hb dL_law_203 rfl (lv_at hl 3 rfl) ?_
  refine lv_iload_n hx hb dL_law_204 rfl (lv_at hl 0 rfl) ?_
  refine lv_iconst (v := 3) hx hb dL_law_205 (by decide) ?_
  refine lv_iadd hx hb dL_law_206 ?_
  refine va_sld hx hb hX hbl hbA hS (z_sc hi hL (n := 3) (by decide) (by decide)) dL_law_207 ?_
  refine zi a3 ea3.symm ?_
  refine z_iL (wa := wx) (wb := wm) (va_runV (As := [.int a1, .int a2, .int a3]) (rest := []) ⟨hx, hb, hml, hown, hts⟩ (wX10_node l dC dI kA _ x0 a1 a2 a3 hX0 hgd hxt) (cwV 3 hts gL_law_X10_node rfl rfl rfl ⟨rfl, hdX10_node⟩ ⟨(Nat.le_of_ble_eq_true rfl), (Nat.le_of_ble_eq_true rfl)⟩) ⟨zPc.blind, XOK_rec hK hX0 hP, zPre hK (wl_P hP) (wl_D hD)⟩ rfl rfl hl.1 rfl (lv_room (Nat.le_of_ble_eq_true rfl)) dL_law_208 ⟨hc1, hs1⟩) hP hD hS hA (fun r1 w1 H locs hw1 hP hD hS => ?_)
  refine lv_pop hx hb dL_law_211 rfl ?_
  refine lv_aload_n hx hb dL_law_212 rfl (lv_at hl 1 rfl) ?_
  refine lv_aload_n hx hb dL_law_213 rfl (lv_at hl 3 rfl) ?_
  refine lv_iload_n hx hb dL_law_214 rfl (lv_at hl 0 rfl) ?_
  refine lv_iconst (v := 1) hx hb dL_law_215 (by decide) ?_
  refine lv_iadd hx hb dL_law_216 ?_
  refine va_sld hx hb hX hbl hbA hS (z_sc hi hL (n := 1) (by decide) (by decide)) dL_law_217 ?_
  refine zi a1 ea1.symm ?_
  refine lv_aload_n hx hb dL_law_218 rfl (lv_at hl 3 rfl) ?_
  refine lv_iload_n hx hb dL_law_219 rfl (lv_at hl 0 rfl) ?_
  refine lv_iconst (v := 2) hx hb dL_law_220 (by decide) ?_
  refine lv_iadd hx hb dL_law_221 ?_
  refine va_sld hx hb hX hbl hbA hS (z_sc hi hL (n := 2) (by decide) (by decide)) dL_law_222 ?_
  refine zi a2 ea2.symm ?_
  refine lv_aload_n hx hb dL_law_223 rfl (lv_at hl 3 rfl) ?_
  refine lv_iload_n hx hb dL_law_224 rfl (lv_at hl 0 rfl) ?_
  refine lv_iconst (v := 3) hx hb dL_law_225 (by decide) ?_
  refine lv_iadd hx hb dL_law_226 ?_
  refine va_sld hx hb hX hbl hbA hS (z_sc hi hL (n := 3) (by decide) (by decide)) dL_law_227 ?_
  refine zi a3 ea3.symm ?_
  refine z_iL (wa := wm) (wb := w1) (va_runV (As := [.int a1, .int a2, .int a3]) (rest := []) ⟨hx, hb, hml, hown, hts⟩ (wX11_node l dC dI kA _ n0 a1 a2 a3 hM0) (cwV 3 hts gL_law_X11_node rfl rfl rfl ⟨rfl, hdX11_node⟩ ⟨(Nat.le_of_ble_eq_true rfl), (Nat.le_of_ble_eq_true rfl)⟩) ⟨zPc.blind, MOK_rec hK hM0 (wp_P hP List.perm_append_comm), zPre hK (wl_P (wp_P hP List.perm_append_comm)) (wl_D (wp_D hD List.perm_append_comm))⟩ rfl rfl hl.1 rfl (lv_room (Nat.le_of_ble_eq_true rfl)) dL_law_228 ⟨hc2, hs2⟩) (wp_P hP List.perm_append_comm) (wp_D hD List.perm_append_comm) hS hA (fun r2 w2 H locs hw2 hP hD hS => ?_)
  have hP := wp_P hP (List.perm_append_comm)
  have hD := wp_D hD (List.perm_append_comm)
  refine lv_pop hx hb dL_law_231 rfl ?_
  refine lv_goto (tgt := 1730) hx hb dL_law_232 (by decide) ?_
  refine W.widen (k := cells + 40) (n := slots + 2000) (by omega) (by omega) ?_
  exact kk w1 w2 H locs ls ⟨_, _, _, hw1.2, hw2.2⟩ hP hD hS hl
set_option maxHeartbeats 4000000 in
set_option maxRecDepth 100000 in
theorem law_c1 {p : Program} {l : Launch} {e : Env} {s : State} {m : MethodId} {below : List Frame} {meth : Method} {c : Code} {b L : Nat} {xs : Nat → Int32} {dC : Nat → ClassId} {dI : Nat → Nat → Nat} {kA : Nat → ClassId} {aS vS : Nat} {oS : Option Nat} {x0 n0 : Nat} (C0 : lw_At p s m meth c b L xs) (hL : L ≤ 5120) (hK : zK dC dI kA s) (hZ : zStr aS vS oS (fun q : Nat => s.heap.size ≤ q) s s.heap) {i : Int32} (hi : 0 ≤ i.toInt ∧ i.toInt + 10 ≤ L) {cells slots : Nat} (hc : cells + 40 ≤ 600000) (hs : slots + 2000 ≤ 7302249) (kk : ∀ (wx wm : va_W) (H : Heap) (locs : List Loc) (ls : Array Slot), LInv kA x0 n0 wx wm → va_P (dC, dI) vwCl (wx ++ wm) H → va_D (fun q : Nat => s.heap.size ≤ q) (wx ++ wm) → va_S (fun q : Nat => s.heap.size ≤ q) s.heap H locs → lv_has ls 4 [(3, .int i), (2, .ref n0), (1, .ref x0), (0, .ref b)] → W p l e room_1 s m #[Value.ref b] below meth c H locs (cells + 40) (slots + 2000) (lw_Z below #[Value.ref b] s) (F0 m 1730 ls [])) (wx wm : va_W) (H : Heap) (locs : List Loc) (ls : Array Slot) (hI : LInv kA x0 n0 wx wm) (hP : va_P (dC, dI) vwCl (wx ++ wm) H) (hD : va_D (fun q : Nat => s.heap.size ≤ q) (wx ++ wm)) (hS : va_S (fun q : Nat => s.heap.size ≤ q) s.heap H locs) (hl : lv_has ls 4 [(3, .int i), (2, .ref n0), (1, .ref x0), (0, .ref b)]) : W p l e room_1 s m #[Value.ref b] below meth c H locs cells slots (lw_Z below #[Value.ref b] s) (F0 m 235 ls []) := by
  obtain ⟨hx, hb, hr, hml, hown0, hts0, hX, hbl, hlocks, hgv⟩ := C0
  have hown : s.vm.findClass RL = some m.cls := hown0
  have hts : ∀ w ∈ wsL_law, w.before #[Value.ref b] s = true := fun w h => hts0 w (wsL_law_in w h)
  have hA : ∀ q : Nat, s.heap.size ≤ q → (fun q : Nat => s.heap.size ≤ q) q := fun _ h => h
  have hbA : ¬ (fun q : Nat => s.heap.size ≤ q) b := Nat.not_le.mpr hbl
  obtain ⟨S_, LL, im, hX0, hM0⟩ := hI
  have hgd := MOK4_gd hM0
  have hxt := MOK4_xt hM0
  have hgr := MOK4_gr hM0
  have hgx := MOK4_gx hM0
  have hc1 : cells + 20 ≤ room_1.cells := by show cells + 20 ≤ 600000; omega
  have hs1 : slots + 1000 ≤ room_1.slots := by show slots + 1000 ≤ 7302249; omega
  have hc2 : cells + 20 + 20 ≤ room_1.cells := by show cells + 20 + 20 ≤ 600000; omega
  have hs2 : slots + 1000 + 1000 ≤ room_1.slots := by show slots + 1000 + 1000 ≤ 7302249; omega
  obtain ⟨a1, ea1⟩ : ∃ y : Int32, y = xs (i + 1).toNatClampNeg := ⟨_, rfl⟩
  obtain ⟨a2, ea2⟩ : ∃ y : Int32, y = xs (i + 2).toNatClampNeg := ⟨_, rfl⟩
  obtain ⟨a3, ea3⟩ : ∃ y : Int32, y = xs (i + 3).toNatClampNeg := ⟨_, rfl⟩
  obtain ⟨a4, ea4⟩ : ∃ y : Int32, y = xs (i + 4).toNatClampNeg := ⟨_, rfl⟩
  obtain ⟨a5, ea5⟩ : ∃ y : Int32, y = xs (i + 5).toNatClampNeg := ⟨_, rfl⟩
  refine lv_aload_n hx hb dL_law_235 rfl (lv_at hl 2 rfl) ?_
  refine lv_aload_n hx hb dL_law_236 rfl (lv_at hl 3 rfl) ?_
  refine lv_iload_n hx hb dL_law_237 rfl (lv_at hl 0 rfl) ?_
  refine lv_iconst (v := 1) hx hb dL_law_238 (by decide) ?_
  refine lv_iadd hx hb dL_law_239 ?_
  refine va_sld hx hb hX hbl hbA hS (z_sc hi hL (n := 1) (by decide) (by decide)) dL_law_240 ?_
  refine zi a1 ea1.symm ?_
  refine lv_aload_n hx hb dL_law_241 rfl (lv_at hl 3 rfl) ?_
  refine lv_iload_n hx hb dL_law_242 rfl (lv_at hl 0 rfl) ?_
  refine lv_iconst (v := 2) hx hb dL_law_243 (by decide) ?_
  refine lv_iadd hx hb dL_law_244 ?_
  refine va_sld hx hb hX hbl hbA hS (z_sc hi hL (n := 2) (by decide) (by decide)) dL_law_245 ?_
  refine zi a2 ea2.symm ?_
  refine lv_aload_n hx hb dL_law_246 rfl (lv_at hl 3 rfl) ?_
  refine lv_iload_n hx hb dL_law_247 rfl (lv_at hl 0 rfl) ?_
  refine lv_iconst (v := 3) hx hb dL_law_248 (by decide) ?_
  refine lv_iadd hx hb dL_law_249 ?_
  refine va_sld hx hb hX hbl hbA hS (z_sc hi hL (n := 3) (by decide) (by decide)) dL_law_250 ?_
  refine zi a3 ea3.symm ?_
  refine lv_aload_n hx hb dL_law_251 rfl (lv_at hl 3 rfl) ?_
  refine lv_iload_n hx hb dL_law_252 rfl (lv_at hl 0 rfl) ?_
  refine lv_iconst (v := 4) hx hb dL_law_253 (by decide) ?_
  refine lv_iadd hx hb dL_law_254 ?_
  refine va_sld hx hb hX hbl hbA hS (z_sc hi hL (n := 4) (by decide) (by decide)) dL_law_255 ?_
  refine zi a4 ea4.symm ?_
  refine lv_aload_n hx hb dL_law_256 rfl (lv_at hl 3 rfl) ?_
  refine lv_iload_n hx hb dL_law_257 rfl (lv_at hl 0 rfl) ?_
  refine lv_iconst (v := 5) hx hb dL_law_258 (by decide) ?_
  refine lv_iadd hx hb dL_law_259 ?_
  refine va_sld hx hb hX hbl hbA hS (z_sc hi hL (n := 5) (by decide) (by decide)) dL_law_260 ?_
  refine zi a5 ea5.symm ?_
  refine z_iL (wa := wx) (wb := wm) (va_runV (As := [.int a1, .int a2, .int a3, .int a4, .int a5]) (rest := []) ⟨hx, hb, hml, hown, hts⟩ (wX10_pass l dC dI kA _ x0 a1 a2 a3 a4 a5 hX0 hgd hxt) (cwV 5 hts gL_law_X10_pass rfl rfl rfl ⟨rfl, hdX10_pass⟩ ⟨(Nat.le_of_ble_eq_true rfl), (Nat.le_of_ble_eq_true rfl)⟩) ⟨zPc.blind, XOK_rec hK hX0 hP, zPre hK (wl_P hP) (wl_D hD)⟩ rfl rfl hl.1 rfl (lv_room (Nat.le_of_ble_eq_true rfl)) dL_law_261 ⟨hc1, hs1⟩) hP hD hS hA (fun r1 w1 H locs hw1 hP hD hS => ?_)
  refine lv_pop hx hb dL_law_264 rfl ?_
  refine lv_aload_n hx hb dL_law_265 rfl (lv_at hl 1 rfl) ?_
  refine lv_aload_n hx hb dL_law_266 rfl (lv_at hl 3 rfl) ?_
  refine lv_iload_n hx hb dL_law_267 rfl (lv_at hl 0 rfl) ?_
  refine lv_iconst (v := 1) hx hb dL_law_268 (by decide) ?_
  refine lv_iadd hx hb dL_law_269 ?_
  refine va_sld hx hb hX hbl hbA hS (z_sc hi hL (n := 1) (by decide) (by decide)) dL_law_270 ?_
  refine zi a1 ea1.symm ?_
  refine lv_aload_n hx hb dL_law_271 rfl (lv_at hl 3 rfl) ?_
  refine lv_iload_n hx hb dL_law_272 rfl (lv_at hl 0 rfl) ?_
  refine lv_iconst (v := 2) hx hb dL_law_273 (by decide) ?_
  refine lv_iadd hx hb dL_law_274 ?_
  refine va_sld hx hb hX hbl hbA hS (z_sc hi hL (n := 2) (by decide) (by decide)) dL_law_275 ?_
  refine zi a2 ea2.symm ?_
  refine lv_aload_n hx hb dL_law_276 rfl (lv_at hl 3 rfl) ?_
  refine lv_iload_n hx hb dL_law_277 rfl (lv_at hl 0 rfl) ?_
  refine lv_iconst (v := 3) hx hb dL_law_278 (by decide) ?_
  refine lv_iadd hx hb dL_law_279 ?_
  refine va_sld hx hb hX hbl hbA hS (z_sc hi hL (n := 3) (by decide) (by decide)) dL_law_280 ?_
  refine zi a3 ea3.symm ?_
  refine lv_aload_n hx hb dL_law_281 rfl (lv_at hl 3 rfl) ?_
  refine lv_iload_n hx hb dL_law_282 rfl (lv_at hl 0 rfl) ?_
  refine lv_iconst (v := 4) hx hb dL_law_283 (by decide) ?_
  refine lv_iadd hx hb dL_law_284 ?_
  refine va_sld hx hb hX hbl hbA hS (z_sc hi hL (n := 4) (by decide) (by decide)) dL_law_285 ?_
  refine zi a4 ea4.symm ?_
  refine lv_aload_n hx hb dL_law_286 rfl (lv_at hl 3 rfl) ?_
  refine lv_iload_n hx hb dL_law_287 rfl (lv_at hl 0 rfl) ?_
  refine lv_iconst (v := 5) hx hb dL_law_288 (by decide) ?_
  refine lv_iadd hx hb dL_law_289 ?_
  refine va_sld hx hb hX hbl hbA hS (z_sc hi hL (n := 5) (by decide) (by decide)) dL_law_290 ?_
  refine zi a5 ea5.symm ?_
  refine z_iL (wa := wm) (wb := w1) (va_runV (As := [.int a1, .int a2, .int a3, .int a4, .int a5]) (rest := []) ⟨hx, hb, hml, hown, hts⟩ (wX11_pass l dC dI kA _ n0 a1 a2 a3 a4 a5 hM0) (cwV 5 hts gL_law_X11_pass rfl rfl rfl ⟨rfl, hdX11_pass⟩ ⟨(Nat.le_of_ble_eq_true rfl), (Nat.le_of_ble_eq_true rfl)⟩) ⟨zPc.blind, MOK_rec hK hM0 (wp_P hP List.perm_append_comm), zPre hK (wl_P (wp_P hP List.perm_append_comm)) (wl_D (wp_D hD List.perm_append_comm))⟩ rfl rfl hl.1 rfl (lv_room (Nat.le_of_ble_eq_true rfl)) dL_law_291 ⟨hc2, hs2⟩) (wp_P hP List.perm_append_comm) (wp_D hD List.perm_append_comm) hS hA (fun r2 w2 H locs hw2 hP hD hS => ?_)
  have hP := wp_P hP (List.perm_append_comm)
  have hD := wp_D hD (List.perm_append_comm)
  refine lv_pop hx hb dL_law_294 rfl ?_
  refine lv_goto (tgt := 1730) hx hb dL_law_295 (by decide) ?_
  refine W.widen (k := cells + 40) (n := slots + 2000) (by omega) (by omega) ?_
  exact kk w1 w2 H locs ls ⟨_, _, _, hw1.2, hw2.2⟩ hP hD hS hl
set_option maxHeartbeats 4000000 in
set_option maxRecDepth 100000 in
theorem law_c2 {p : Program} {l : Launch} {e : Env} {s : State} {m : MethodId} {below : List Frame} {meth : Method} {c : Code} {b L : Nat} {xs : Nat → Int32} {dC : Nat → ClassId} {dI : Nat → Nat → Nat} {kA : Nat → ClassId} {aS vS : Nat} {oS : Option Nat} {x0 n0 : Nat} (C0 : lw_At p s m meth c b L xs) (hL : L ≤ 5120) (hK : zK dC dI kA s) (hZ : zStr aS vS oS (fun q : Nat => s.heap.size ≤ q) s s.heap) {i : Int32} (hi : 0 ≤ i.toInt ∧ i.toInt + 10 ≤ L) {cells slots : Nat} (hc : cells + 40 ≤ 600000) (hs : slots + 2000 ≤ 7302249) (kk : ∀ (wx wm : va_W) (H : Heap) (locs : List Loc) (ls : Array Slot), LInv kA x0 n0 wx wm → va_P (dC, dI) vwCl (wx ++ wm) H → va_D (fun q : Nat => s.heap.size ≤ q) (wx ++ wm) → va_S (fun q : Nat => s.heap.size ≤ q) s.heap H locs → lv_has ls 4 [(3, .int i), (2, .ref n0), (1, .ref x0), (0, .ref b)] → W p l e room_1 s m #[Value.ref b] below meth c H locs (cells + 40) (slots + 2000) (lw_Z below #[Value.ref b] s) (F0 m 1730 ls [])) (wx wm : va_W) (H : Heap) (locs : List Loc) (ls : Array Slot) (hI : LInv kA x0 n0 wx wm) (hP : va_P (dC, dI) vwCl (wx ++ wm) H) (hD : va_D (fun q : Nat => s.heap.size ≤ q) (wx ++ wm)) (hS : va_S (fun q : Nat => s.heap.size ≤ q) s.heap H locs) (hl : lv_has ls 4 [(3, .int i), (2, .ref n0), (1, .ref x0), (0, .ref b)]) : W p l e room_1 s m #[Value.ref b] below meth c H locs cells slots (lw_Z below #[Value.ref b] s) (F0 m 298 ls []) := by
  obtain ⟨hx, hb, hr, hml, hown0, hts0, hX, hbl, hlocks, hgv⟩ := C0
  have hown : s.vm.findClass RL = some m.cls := hown0
  have hts : ∀ w ∈ wsL_law, w.before #[Value.ref b] s = true := fun w h => hts0 w (wsL_law_in w h)
  have hA : ∀ q : Nat, s.heap.size ≤ q → (fun q : Nat => s.heap.size ≤ q) q := fun _ h => h
  have hbA : ¬ (fun q : Nat => s.heap.size ≤ q) b := Nat.not_le.mpr hbl
  obtain ⟨S_, LL, im, hX0, hM0⟩ := hI
  have hgd := MOK4_gd hM0
  have hxt := MOK4_xt hM0
  have hgr := MOK4_gr hM0
  have hgx := MOK4_gx hM0
  have hc1 : cells + 20 ≤ room_1.cells := by show cells + 20 ≤ 600000; omega
  have hs1 : slots + 1000 ≤ room_1.slots := by show slots + 1000 ≤ 7302249; omega
  have hc2 : cells + 20 + 20 ≤ room_1.cells := by show cells + 20 + 20 ≤ 600000; omega
  have hs2 : slots + 1000 + 1000 ≤ room_1.slots := by show slots + 1000 + 1000 ≤ 7302249; omega
  obtain ⟨a1, ea1⟩ : ∃ y : Int32, y = xs (i + 1).toNatClampNeg := ⟨_, rfl⟩
  obtain ⟨a2, ea2⟩ : ∃ y : Int32, y = xs (i + 2).toNatClampNeg := ⟨_, rfl⟩
  obtain ⟨a3, ea3⟩ : ∃ y : Int32, y = xs (i + 3).toNatClampNeg := ⟨_, rfl⟩
  obtain ⟨a4, ea4⟩ : ∃ y : Int32, y = xs (i + 4).toNatClampNeg := ⟨_, rfl⟩
  obtain ⟨a5, ea5⟩ : ∃ y : Int32, y = xs (i + 5).toNatClampNeg := ⟨_, rfl⟩
  refine lv_aload_n hx hb dL_law_298 rfl (lv_at hl 2 rfl) ?_
  refine lv_aload_n hx hb dL_law_299 rfl (lv_at hl 3 rfl) ?_
  refine lv_iload_n hx hb dL_law_300 rfl (lv_at hl 0 rfl) ?_
  refine lv_iconst (v := 1) hx hb dL_law_301 (by decide) ?_
  refine lv_iadd hx hb dL_law_302 ?_
  refine va_sld hx hb hX hbl hbA hS (z_sc hi hL (n := 1) (by decide) (by decide)) dL_law_303 ?_
  refine zi a1 ea1.symm ?_
  refine lv_aload_n hx hb dL_law_304 rfl (lv_at hl 3 rfl) ?_
  refine lv_iload_n hx hb dL_law_305 rfl (lv_at hl 0 rfl) ?_
  refine lv_iconst (v := 2) hx hb dL_law_306 (by decide) ?_
  refine lv_iadd hx hb dL_law_307 ?_
  refine va_sld hx hb hX hbl hbA hS (z_sc hi hL (n := 2) (by decide) (by decide)) dL_law_308 ?_
  refine zi a2 ea2.symm ?_
  refine lv_aload_n hx hb dL_law_309 rfl (lv_at hl 3 rfl) ?_
  refine lv_iload_n hx hb dL_law_310 rfl (lv_at hl 0 rfl) ?_
  refine lv_iconst (v := 3) hx hb dL_law_311 (by decide) ?_
  refine lv_iadd hx hb dL_law_312 ?_
  refine va_sld hx hb hX hbl hbA hS (z_sc hi hL (n := 3) (by decide) (by decide)) dL_law_313 ?_
  refine zi a3 ea3.symm ?_
  refine lv_aload_n hx hb dL_law_314 rfl (lv_at hl 3 rfl) ?_
  refine lv_iload_n hx hb dL_law_315 rfl (lv_at hl 0 rfl) ?_
  refine lv_iconst (v := 4) hx hb dL_law_316 (by decide) ?_
  refine lv_iadd hx hb dL_law_317 ?_
  refine va_sld hx hb hX hbl hbA hS (z_sc hi hL (n := 4) (by decide) (by decide)) dL_law_318 ?_
  refine zi a4 ea4.symm ?_
  refine lv_aload_n hx hb dL_law_319 rfl (lv_at hl 3 rfl) ?_
  refine lv_iload_n hx hb dL_law_320 rfl (lv_at hl 0 rfl) ?_
  refine lv_iconst (v := 5) hx hb dL_law_321 (by decide) ?_
  refine lv_iadd hx hb dL_law_322 ?_
  refine va_sld hx hb hX hbl hbA hS (z_sc hi hL (n := 5) (by decide) (by decide)) dL_law_323 ?_
  refine zi a5 ea5.symm ?_
  refine z_iL (wa := wx) (wb := wm) (va_runV (As := [.int a1, .int a2, .int a3, .int a4, .int a5]) (rest := []) ⟨hx, hb, hml, hown, hts⟩ (wX10_jar l dC dI kA _ x0 a1 a2 a3 a4 a5 hX0 hgd hxt) (cwV 5 hts gL_law_X10_jar rfl rfl rfl ⟨rfl, hdX10_jar⟩ ⟨(Nat.le_of_ble_eq_true rfl), (Nat.le_of_ble_eq_true rfl)⟩) ⟨zPc.blind, XOK_rec hK hX0 hP, zPre hK (wl_P hP) (wl_D hD)⟩ rfl rfl hl.1 rfl (lv_room (Nat.le_of_ble_eq_true rfl)) dL_law_324 ⟨hc1, hs1⟩) hP hD hS hA (fun r1 w1 H locs hw1 hP hD hS => ?_)
  refine lv_pop hx hb dL_law_327 rfl ?_
  refine lv_aload_n hx hb dL_law_328 rfl (lv_at hl 1 rfl) ?_
  refine lv_aload_n hx hb dL_law_329 rfl (lv_at hl 3 rfl) ?_
  refine lv_iload_n hx hb dL_law_330 rfl (lv_at hl 0 rfl) ?_
  refine lv_iconst (v := 1) hx hb dL_law_331 (by decide) ?_
  refine lv_iadd hx hb dL_law_332 ?_
  refine va_sld hx hb hX hbl hbA hS (z_sc hi hL (n := 1) (by decide) (by decide)) dL_law_333 ?_
  refine zi a1 ea1.symm ?_
  refine lv_aload_n hx hb dL_law_334 rfl (lv_at hl 3 rfl) ?_
  refine lv_iload_n hx hb dL_law_335 rfl (lv_at hl 0 rfl) ?_
  refine lv_iconst (v := 2) hx hb dL_law_336 (by decide) ?_
  refine lv_iadd hx hb dL_law_337 ?_
  refine va_sld hx hb hX hbl hbA hS (z_sc hi hL (n := 2) (by decide) (by decide)) dL_law_338 ?_
  refine zi a2 ea2.symm ?_
  refine lv_aload_n hx hb dL_law_339 rfl (lv_at hl 3 rfl) ?_
  refine lv_iload_n hx hb dL_law_340 rfl (lv_at hl 0 rfl) ?_
  refine lv_iconst (v := 3) hx hb dL_law_341 (by decide) ?_
  refine lv_iadd hx hb dL_law_342 ?_
  refine va_sld hx hb hX hbl hbA hS (z_sc hi hL (n := 3) (by decide) (by decide)) dL_law_343 ?_
  refine zi a3 ea3.symm ?_
  refine lv_aload_n hx hb dL_law_344 rfl (lv_at hl 3 rfl) ?_
  refine lv_iload_n hx hb dL_law_345 rfl (lv_at hl 0 rfl) ?_
  refine lv_iconst (v := 4) hx hb dL_law_346 (by decide) ?_
  refine lv_iadd hx hb dL_law_347 ?_
  refine va_sld hx hb hX hbl hbA hS (z_sc hi hL (n := 4) (by decide) (by decide)) dL_law_348 ?_
  refine zi a4 ea4.symm ?_
  refine lv_aload_n hx hb dL_law_349 rfl (lv_at hl 3 rfl) ?_
  refine lv_iload_n hx hb dL_law_350 rfl (lv_at hl 0 rfl) ?_
  refine lv_iconst (v := 5) hx hb dL_law_351 (by decide) ?_
  refine lv_iadd hx hb dL_law_352 ?_
  refine va_sld hx hb hX hbl hbA hS (z_sc hi hL (n := 5) (by decide) (by decide)) dL_law_353 ?_
  refine zi a5 ea5.symm ?_
  refine z_iL (wa := wm) (wb := w1) (va_runV (As := [.int a1, .int a2, .int a3, .int a4, .int a5]) (rest := []) ⟨hx, hb, hml, hown, hts⟩ (wX11_jar l dC dI kA _ n0 a1 a2 a3 a4 a5 hM0) (cwV 5 hts gL_law_X11_jar rfl rfl rfl ⟨rfl, hdX11_jar⟩ ⟨(Nat.le_of_ble_eq_true rfl), (Nat.le_of_ble_eq_true rfl)⟩) ⟨zPc.blind, MOK_rec hK hM0 (wp_P hP List.perm_append_comm), zPre hK (wl_P (wp_P hP List.perm_append_comm)) (wl_D (wp_D hD List.perm_append_comm))⟩ rfl rfl hl.1 rfl (lv_room (Nat.le_of_ble_eq_true rfl)) dL_law_354 ⟨hc2, hs2⟩) (wp_P hP List.perm_append_comm) (wp_D hD List.perm_append_comm) hS hA (fun r2 w2 H locs hw2 hP hD hS => ?_)
  have hP := wp_P hP (List.perm_append_comm)
  have hD := wp_D hD (List.perm_append_comm)
  refine lv_pop hx hb dL_law_357 rfl ?_
  refine lv_goto (tgt := 1730) hx hb dL_law_358 (by decide) ?_
  refine W.widen (k := cells + 40) (n := slots + 2000) (by omega) (by omega) ?_
  exact kk w1 w2 H locs ls ⟨_, _, _, hw1.2, hw2.2⟩ hP hD hS hl
set_option maxHeartbeats 4000000 in
set_option maxRecDepth 100000 in
theorem law_c3 {p : Program} {l : Launch} {e : Env} {s : State} {m : MethodId} {below : List Frame} {meth : Method} {c : Code} {b L : Nat} {xs : Nat → Int32} {dC : Nat → ClassId} {dI : Nat → Nat → Nat} {kA : Nat → ClassId} {aS vS : Nat} {oS : Option Nat} {x0 n0 : Nat} (C0 : lw_At p s m meth c b L xs) (hL : L ≤ 5120) (hK : zK dC dI kA s) (hZ : zStr aS vS oS (fun q : Nat => s.heap.size ≤ q) s s.heap) {i : Int32} (hi : 0 ≤ i.toInt ∧ i.toInt + 10 ≤ L) {cells slots : Nat} (hc : cells + 40 ≤ 600000) (hs : slots + 2000 ≤ 7302249) (kk : ∀ (wx wm : va_W) (H : Heap) (locs : List Loc) (ls : Array Slot), LInv kA x0 n0 wx wm → va_P (dC, dI) vwCl (wx ++ wm) H → va_D (fun q : Nat => s.heap.size ≤ q) (wx ++ wm) → va_S (fun q : Nat => s.heap.size ≤ q) s.heap H locs → lv_has ls 4 [(3, .int i), (2, .ref n0), (1, .ref x0), (0, .ref b)] → W p l e room_1 s m #[Value.ref b] below meth c H locs (cells + 40) (slots + 2000) (lw_Z below #[Value.ref b] s) (F0 m 1730 ls [])) (wx wm : va_W) (H : Heap) (locs : List Loc) (ls : Array Slot) (hI : LInv kA x0 n0 wx wm) (hP : va_P (dC, dI) vwCl (wx ++ wm) H) (hD : va_D (fun q : Nat => s.heap.size ≤ q) (wx ++ wm)) (hS : va_S (fun q : Nat => s.heap.size ≤ q) s.heap H locs) (hl : lv_has ls 4 [(3, .int i), (2, .ref n0), (1, .ref x0), (0, .ref b)]) : W p l e room_1 s m #[Value.ref b] below meth c H locs cells slots (lw_Z below #[Value.ref b] s) (F0 m 361 ls []) := by
  obtain ⟨hx, hb, hr, hml, hown0, hts0, hX, hbl, hlocks, hgv⟩ := C0
  have hown : s.vm.findClass RL = some m.cls := hown0
  have hts : ∀ w ∈ wsL_law, w.before #[Value.ref b] s = true := fun w h => hts0 w (wsL_law_in w h)
  have hA : ∀ q : Nat, s.heap.size ≤ q → (fun q : Nat => s.heap.size ≤ q) q := fun _ h => h
  have hbA : ¬ (fun q : Nat => s.heap.size ≤ q) b := Nat.not_le.mpr hbl
  obtain ⟨S_, LL, im, hX0, hM0⟩ := hI
  have hgd := MOK4_gd hM0
  have hxt := MOK4_xt hM0
  have hgr := MOK4_gr hM0
  have hgx := MOK4_gx hM0
  have hc1 : cells + 20 ≤ room_1.cells := by show cells + 20 ≤ 600000; omega
  have hs1 : slots + 1000 ≤ room_1.slots := by show slots + 1000 ≤ 7302249; omega
  have hc2 : cells + 20 + 20 ≤ room_1.cells := by show cells + 20 + 20 ≤ 600000; omega
  have hs2 : slots + 1000 + 1000 ≤ room_1.slots := by show slots + 1000 + 1000 ≤ 7302249; omega
  obtain ⟨a1, ea1⟩ : ∃ y : Int32, y = xs (i + 1).toNatClampNeg := ⟨_, rfl⟩
  refine lv_aload_n hx hb dL_law_361 rfl (lv_at hl 2 rfl) ?_
  refine lv_aload_n hx hb dL_law_362 rfl (lv_at hl 3 rfl) ?_
  refine lv_iload_n hx hb dL_law_363 rfl (lv_at hl 0 rfl) ?_
  refine lv_iconst (v := 1) hx hb dL_law_364 (by decide) ?_
  refine lv_iadd hx hb dL_law_365 ?_
  refine va_sld hx hb hX hbl hbA hS (z_sc hi hL (n := 1) (by decide) (by decide)) dL_law_366 ?_
  refine zi a1 ea1.symm ?_
  refine z_iL (wa := wx) (wb := wm) (va_runV (As := [.int a1]) (rest := []) ⟨hx, hb, hml, hown, hts⟩ (wX10_month l dC dI kA _ x0 a1 hX0 hgd hxt) (cwV 1 hts gL_law_X10_month rfl rfl rfl ⟨rfl, hdX10_month⟩ ⟨(Nat.le_of_ble_eq_true rfl), (Nat.le_of_ble_eq_true rfl)⟩) ⟨zPc.blind, XOK_rec hK hX0 hP, zPre hK (wl_P hP) (wl_D hD)⟩ rfl rfl hl.1 rfl (lv_room (Nat.le_of_ble_eq_true rfl)) dL_law_367 ⟨hc1, hs1⟩) hP hD hS hA (fun r1 w1 H locs hw1 hP hD hS => ?_)
  refine lv_pop hx hb dL_law_370 rfl ?_
  refine lv_aload_n hx hb dL_law_371 rfl (lv_at hl 1 rfl) ?_
  refine lv_aload_n hx hb dL_law_372 rfl (lv_at hl 3 rfl) ?_
  refine lv_iload_n hx hb dL_law_373 rfl (lv_at hl 0 rfl) ?_
  refine lv_iconst (v := 1) hx hb dL_law_374 (by decide) ?_
  refine lv_iadd hx hb dL_law_375 ?_
  refine va_sld hx hb hX hbl hbA hS (z_sc hi hL (n := 1) (by decide) (by decide)) dL_law_376 ?_
  refine zi a1 ea1.symm ?_
  refine z_iL (wa := wm) (wb := w1) (va_runV (As := [.int a1]) (rest := []) ⟨hx, hb, hml, hown, hts⟩ (wX11_month l dC dI kA _ n0 a1 hM0) (cwV 1 hts gL_law_X11_month rfl rfl rfl ⟨rfl, hdX11_month⟩ ⟨(Nat.le_of_ble_eq_true rfl), (Nat.le_of_ble_eq_true rfl)⟩) ⟨zPc.blind, MOK_rec hK hM0 (wp_P hP List.perm_append_comm), zPre hK (wl_P (wp_P hP List.perm_append_comm)) (wl_D (wp_D hD List.perm_append_comm))⟩ rfl rfl hl.1 rfl (lv_room (Nat.le_of_ble_eq_true rfl)) dL_law_377 ⟨hc2, hs2⟩) (wp_P hP List.perm_append_comm) (wp_D hD List.perm_append_comm) hS hA (fun r2 w2 H locs hw2 hP hD hS => ?_)
  have hP := wp_P hP (List.perm_append_comm)
  have hD := wp_D hD (List.perm_append_comm)
  refine lv_pop hx hb dL_law_380 rfl ?_
  refine lv_goto (tgt := 1730) hx hb dL_law_381 (by decide) ?_
  refine W.widen (k := cells + 40) (n := slots + 2000) (by omega) (by omega) ?_
  exact kk w1 w2 H locs ls ⟨_, _, _, hw1.2, hw2.2⟩ hP hD hS hl
set_option maxHeartbeats 4000000 in
set_option maxRecDepth 100000 in
theorem law_c4 {p : Program} {l : Launch} {e : Env} {s : State} {m : MethodId} {below : List Frame} {meth : Method} {c : Code} {b L : Nat} {xs : Nat → Int32} {dC : Nat → ClassId} {dI : Nat → Nat → Nat} {kA : Nat → ClassId} {aS vS : Nat} {oS : Option Nat} {x0 n0 : Nat} (C0 : lw_At p s m meth c b L xs) (hL : L ≤ 5120) (hK : zK dC dI kA s) (hZ : zStr aS vS oS (fun q : Nat => s.heap.size ≤ q) s s.heap) {i : Int32} (hi : 0 ≤ i.toInt ∧ i.toInt + 10 ≤ L) {cells slots : Nat} (hc : cells + 40 ≤ 600000) (hs : slots + 2000 ≤ 7302249) (kk : ∀ (wx wm : va_W) (H : Heap) (locs : List Loc) (ls : Array Slot), LInv kA x0 n0 wx wm → va_P (dC, dI) vwCl (wx ++ wm) H → va_D (fun q : Nat => s.heap.size ≤ q) (wx ++ wm) → va_S (fun q : Nat => s.heap.size ≤ q) s.heap H locs → lv_has ls 4 [(3, .int i), (2, .ref n0), (1, .ref x0), (0, .ref b)] → W p l e room_1 s m #[Value.ref b] below meth c H locs (cells + 40) (slots + 2000) (lw_Z below #[Value.ref b] s) (F0 m 1730 ls [])) (wx wm : va_W) (H : Heap) (locs : List Loc) (ls : Array Slot) (hI : LInv kA x0 n0 wx wm) (hP : va_P (dC, dI) vwCl (wx ++ wm) H) (hD : va_D (fun q : Nat => s.heap.size ≤ q) (wx ++ wm)) (hS : va_S (fun q : Nat => s.heap.size ≤ q) s.heap H locs) (hl : lv_has ls 4 [(3, .int i), (2, .ref n0), (1, .ref x0), (0, .ref b)]) : W p l e room_1 s m #[Value.ref b] below meth c H locs cells slots (lw_Z below #[Value.ref b] s) (F0 m 384 ls []) := by
  obtain ⟨hx, hb, hr, hml, hown0, hts0, hX, hbl, hlocks, hgv⟩ := C0
  have hown : s.vm.findClass RL = some m.cls := hown0
  have hts : ∀ w ∈ wsL_law, w.before #[Value.ref b] s = true := fun w h => hts0 w (wsL_law_in w h)
  have hA : ∀ q : Nat, s.heap.size ≤ q → (fun q : Nat => s.heap.size ≤ q) q := fun _ h => h
  have hbA : ¬ (fun q : Nat => s.heap.size ≤ q) b := Nat.not_le.mpr hbl
  obtain ⟨S_, LL, im, hX0, hM0⟩ := hI
  have hgd := MOK4_gd hM0
  have hxt := MOK4_xt hM0
  have hgr := MOK4_gr hM0
  have hgx := MOK4_gx hM0
  have hc1 : cells + 20 ≤ room_1.cells := by show cells + 20 ≤ 600000; omega
  have hs1 : slots + 1000 ≤ room_1.slots := by show slots + 1000 ≤ 7302249; omega
  have hc2 : cells + 20 + 20 ≤ room_1.cells := by show cells + 20 + 20 ≤ 600000; omega
  have hs2 : slots + 1000 + 1000 ≤ room_1.slots := by show slots + 1000 + 1000 ≤ 7302249; omega
  obtain ⟨a1, ea1⟩ : ∃ y : Int32, y = xs (i + 1).toNatClampNeg := ⟨_, rfl⟩
  refine lv_aload_n hx hb dL_law_384 rfl (lv_at hl 2 rfl) ?_
  refine lv_aload_n hx hb dL_law_385 rfl (lv_at hl 3 rfl) ?_
  refine lv_iload_n hx hb dL_law_386 rfl (lv_at hl 0 rfl) ?_
  refine lv_iconst (v := 1) hx hb dL_law_387 (by decide) ?_
  refine lv_iadd hx hb dL_law_388 ?_
  refine va_sld hx hb hX hbl hbA hS (z_sc hi hL (n := 1) (by decide) (by decide)) dL_law_389 ?_
  refine zi a1 ea1.symm ?_
  refine z_iL (wa := wx) (wb := wm) (va_runV (As := [.int a1]) (rest := []) ⟨hx, hb, hml, hown, hts⟩ (wX10_seed l dC dI kA _ x0 a1 hX0 hgd hxt) (cwV 1 hts gL_law_X10_seed rfl rfl rfl ⟨rfl, hdX10_seed⟩ ⟨(Nat.le_of_ble_eq_true rfl), (Nat.le_of_ble_eq_true rfl)⟩) ⟨zPc.blind, XOK_rec hK hX0 hP, zPre hK (wl_P hP) (wl_D hD)⟩ rfl rfl hl.1 rfl (lv_room (Nat.le_of_ble_eq_true rfl)) dL_law_390 ⟨hc1, hs1⟩) hP hD hS hA (fun r1 w1 H locs hw1 hP hD hS => ?_)
  refine lv_pop hx hb dL_law_393 rfl ?_
  refine lv_aload_n hx hb dL_law_394 rfl (lv_at hl 1 rfl) ?_
  refine lv_aload_n hx hb dL_law_395 rfl (lv_at hl 3 rfl) ?_
  refine lv_iload_n hx hb dL_law_396 rfl (lv_at hl 0 rfl) ?_
  refine lv_iconst (v := 1) hx hb dL_law_397 (by decide) ?_
  refine lv_iadd hx hb dL_law_398 ?_
  refine va_sld hx hb hX hbl hbA hS (z_sc hi hL (n := 1) (by decide) (by decide)) dL_law_399 ?_
  refine zi a1 ea1.symm ?_
  refine z_iL (wa := wm) (wb := w1) (va_runV (As := [.int a1]) (rest := []) ⟨hx, hb, hml, hown, hts⟩ (wX11_seed l dC dI kA _ n0 a1 hM0) (cwV 1 hts gL_law_X11_seed rfl rfl rfl ⟨rfl, hdX11_seed⟩ ⟨(Nat.le_of_ble_eq_true rfl), (Nat.le_of_ble_eq_true rfl)⟩) ⟨zPc.blind, MOK_rec hK hM0 (wp_P hP List.perm_append_comm), zPre hK (wl_P (wp_P hP List.perm_append_comm)) (wl_D (wp_D hD List.perm_append_comm))⟩ rfl rfl hl.1 rfl (lv_room (Nat.le_of_ble_eq_true rfl)) dL_law_400 ⟨hc2, hs2⟩) (wp_P hP List.perm_append_comm) (wp_D hD List.perm_append_comm) hS hA (fun r2 w2 H locs hw2 hP hD hS => ?_)
  have hP := wp_P hP (List.perm_append_comm)
  have hD := wp_D hD (List.perm_append_comm)
  refine lv_pop hx hb dL_law_403 rfl ?_
  refine lv_goto (tgt := 1730) hx hb dL_law_404 (by decide) ?_
  refine W.widen (k := cells + 40) (n := slots + 2000) (by omega) (by omega) ?_
  exact kk w1 w2 H locs ls ⟨_, _, _, hw1.2, hw2.2⟩ hP hD hS hl
set_option maxHeartbeats 4000000 in
set_option maxRecDepth 100000 in
theorem law_c5 {p : Program} {l : Launch} {e : Env} {s : State} {m : MethodId} {below : List Frame} {meth : Method} {c : Code} {b L : Nat} {xs : Nat → Int32} {dC : Nat → ClassId} {dI : Nat → Nat → Nat} {kA : Nat → ClassId} {aS vS : Nat} {oS : Option Nat} {x0 n0 : Nat} (C0 : lw_At p s m meth c b L xs) (hL : L ≤ 5120) (hK : zK dC dI kA s) (hZ : zStr aS vS oS (fun q : Nat => s.heap.size ≤ q) s s.heap) {i : Int32} (hi : 0 ≤ i.toInt ∧ i.toInt + 10 ≤ L) {cells slots : Nat} (hc : cells + 40 ≤ 600000) (hs : slots + 2000 ≤ 7302249) (kk : ∀ (wx wm : va_W) (H : Heap) (locs : List Loc) (ls : Array Slot), LInv kA x0 n0 wx wm → va_P (dC, dI) vwCl (wx ++ wm) H → va_D (fun q : Nat => s.heap.size ≤ q) (wx ++ wm) → va_S (fun q : Nat => s.heap.size ≤ q) s.heap H locs → lv_has ls 4 [(3, .int i), (2, .ref n0), (1, .ref x0), (0, .ref b)] → W p l e room_1 s m #[Value.ref b] below meth c H locs (cells + 40) (slots + 2000) (lw_Z below #[Value.ref b] s) (F0 m 1730 ls [])) (wx wm : va_W) (H : Heap) (locs : List Loc) (ls : Array Slot) (hI : LInv kA x0 n0 wx wm) (hP : va_P (dC, dI) vwCl (wx ++ wm) H) (hD : va_D (fun q : Nat => s.heap.size ≤ q) (wx ++ wm)) (hS : va_S (fun q : Nat => s.heap.size ≤ q) s.heap H locs) (hl : lv_has ls 4 [(3, .int i), (2, .ref n0), (1, .ref x0), (0, .ref b)]) : W p l e room_1 s m #[Value.ref b] below meth c H locs cells slots (lw_Z below #[Value.ref b] s) (F0 m 407 ls []) := by
  obtain ⟨hx, hb, hr, hml, hown0, hts0, hX, hbl, hlocks, hgv⟩ := C0
  have hown : s.vm.findClass RL = some m.cls := hown0
  have hts : ∀ w ∈ wsL_law, w.before #[Value.ref b] s = true := fun w h => hts0 w (wsL_law_in w h)
  have hA : ∀ q : Nat, s.heap.size ≤ q → (fun q : Nat => s.heap.size ≤ q) q := fun _ h => h
  have hbA : ¬ (fun q : Nat => s.heap.size ≤ q) b := Nat.not_le.mpr hbl
  obtain ⟨S_, LL, im, hX0, hM0⟩ := hI
  have hgd := MOK4_gd hM0
  have hxt := MOK4_xt hM0
  have hgr := MOK4_gr hM0
  have hgx := MOK4_gx hM0
  have hc1 : cells + 20 ≤ room_1.cells := by show cells + 20 ≤ 600000; omega
  have hs1 : slots + 1000 ≤ room_1.slots := by show slots + 1000 ≤ 7302249; omega
  have hc2 : cells + 20 + 20 ≤ room_1.cells := by show cells + 20 + 20 ≤ 600000; omega
  have hs2 : slots + 1000 + 1000 ≤ room_1.slots := by show slots + 1000 + 1000 ≤ 7302249; omega
  obtain ⟨a1, ea1⟩ : ∃ y : Int32, y = xs (i + 1).toNatClampNeg := ⟨_, rfl⟩
  obtain ⟨a2, ea2⟩ : ∃ y : Int32, y = xs (i + 2).toNatClampNeg := ⟨_, rfl⟩
  obtain ⟨a3, ea3⟩ : ∃ y : Int32, y = xs (i + 3).toNatClampNeg := ⟨_, rfl⟩
  obtain ⟨a4, ea4⟩ : ∃ y : Int32, y = xs (i + 4).toNatClampNeg := ⟨_, rfl⟩
  obtain ⟨a5, ea5⟩ : ∃ y : Int32, y = xs (i + 5).toNatClampNeg := ⟨_, rfl⟩
  refine lv_aload_n hx hb dL_law_407 rfl (lv_at hl 2 rfl) ?_
  refine lv_aload_n hx hb dL_law_408 rfl (lv_at hl 3 rfl) ?_
  refine lv_iload_n hx hb dL_law_409 rfl (lv_at hl 0 rfl) ?_
  refine lv_iconst (v := 1) hx hb dL_law_410 (by decide) ?_
  refine lv_iadd hx hb dL_law_411 ?_
  refine va_sld hx hb hX hbl hbA hS (z_sc hi hL (n := 1) (by decide) (by decide)) dL_law_412 ?_
  refine zi a1 ea1.symm ?_
  refine lv_aload_n hx hb dL_law_413 rfl (lv_at hl 3 rfl) ?_
  refine lv_iload_n hx hb dL_law_414 rfl (lv_at hl 0 rfl) ?_
  refine lv_iconst (v := 2) hx hb dL_law_415 (by decide) ?_
  refine lv_iadd hx hb dL_law_416 ?_
  refine va_sld hx hb hX hbl hbA hS (z_sc hi hL (n := 2) (by decide) (by decide)) dL_law_417 ?_
  refine zi a2 ea2.symm ?_
  refine lv_aload_n hx hb dL_law_418 rfl (lv_at hl 3 rfl) ?_
  refine lv_iload_n hx hb dL_law_419 rfl (lv_at hl 0 rfl) ?_
  refine lv_iconst (v := 3) hx hb dL_law_420 (by decide) ?_
  refine lv_iadd hx hb dL_law_421 ?_
  refine va_sld hx hb hX hbl hbA hS (z_sc hi hL (n := 3) (by decide) (by decide)) dL_law_422 ?_
  refine zi a3 ea3.symm ?_
  refine lv_aload_n hx hb dL_law_423 rfl (lv_at hl 3 rfl) ?_
  refine lv_iload_n hx hb dL_law_424 rfl (lv_at hl 0 rfl) ?_
  refine lv_iconst (v := 4) hx hb dL_law_425 (by decide) ?_
  refine lv_iadd hx hb dL_law_426 ?_
  refine va_sld hx hb hX hbl hbA hS (z_sc hi hL (n := 4) (by decide) (by decide)) dL_law_427 ?_
  refine zi a4 ea4.symm ?_
  refine lv_aload_n hx hb dL_law_428 rfl (lv_at hl 3 rfl) ?_
  refine lv_iload_n hx hb dL_law_429 rfl (lv_at hl 0 rfl) ?_
  refine lv_iconst (v := 5) hx hb dL_law_430 (by decide) ?_
  refine lv_iadd hx hb dL_law_431 ?_
  refine va_sld hx hb hX hbl hbA hS (z_sc hi hL (n := 5) (by decide) (by decide)) dL_law_432 ?_
  refine zi a5 ea5.symm ?_
  refine z_iL (wa := wx) (wb := wm) (va_runV (As := [.int a1, .int a2, .int a3, .int a4, .int a5]) (rest := []) ⟨hx, hb, hml, hown, hts⟩ (wX10_feed l dC dI kA _ x0 a1 a2 a3 a4 a5 hX0 hgd hxt) (cwV 5 hts gL_law_X10_feed rfl rfl rfl ⟨rfl, hdX10_feed⟩ ⟨(Nat.le_of_ble_eq_true rfl), (Nat.le_of_ble_eq_true rfl)⟩) ⟨zPc.blind, XOK_rec hK hX0 hP, zPre hK (wl_P hP) (wl_D hD)⟩ rfl rfl hl.1 rfl (lv_room (Nat.le_of_ble_eq_true rfl)) dL_law_433 ⟨hc1, hs1⟩) hP hD hS hA (fun r1 w1 H locs hw1 hP hD hS => ?_)
  refine lv_pop hx hb dL_law_436 rfl ?_
  refine lv_aload_n hx hb dL_law_437 rfl (lv_at hl 1 rfl) ?_
  refine lv_aload_n hx hb dL_law_438 rfl (lv_at hl 3 rfl) ?_
  refine lv_iload_n hx hb dL_law_439 rfl (lv_at hl 0 rfl) ?_
  refine lv_iconst (v := 1) hx hb dL_law_440 (by decide) ?_
  refine lv_iadd hx hb dL_law_441 ?_
  refine va_sld hx hb hX hbl hbA hS (z_sc hi hL (n := 1) (by decide) (by decide)) dL_law_442 ?_
  refine zi a1 ea1.symm ?_
  refine lv_aload_n hx hb dL_law_443 rfl (lv_at hl 3 rfl) ?_
  refine lv_iload_n hx hb dL_law_444 rfl (lv_at hl 0 rfl) ?_
  refine lv_iconst (v := 2) hx hb dL_law_445 (by decide) ?_
  refine lv_iadd hx hb dL_law_446 ?_
  refine va_sld hx hb hX hbl hbA hS (z_sc hi hL (n := 2) (by decide) (by decide)) dL_law_447 ?_
  refine zi a2 ea2.symm ?_
  refine lv_aload_n hx hb dL_law_448 rfl (lv_at hl 3 rfl) ?_
  refine lv_iload_n hx hb dL_law_449 rfl (lv_at hl 0 rfl) ?_
  refine lv_iconst (v := 3) hx hb dL_law_450 (by decide) ?_
  refine lv_iadd hx hb dL_law_451 ?_
  refine va_sld hx hb hX hbl hbA hS (z_sc hi hL (n := 3) (by decide) (by decide)) dL_law_452 ?_
  refine zi a3 ea3.symm ?_
  refine lv_aload_n hx hb dL_law_453 rfl (lv_at hl 3 rfl) ?_
  refine lv_iload_n hx hb dL_law_454 rfl (lv_at hl 0 rfl) ?_
  refine lv_iconst (v := 4) hx hb dL_law_455 (by decide) ?_
  refine lv_iadd hx hb dL_law_456 ?_
  refine va_sld hx hb hX hbl hbA hS (z_sc hi hL (n := 4) (by decide) (by decide)) dL_law_457 ?_
  refine zi a4 ea4.symm ?_
  refine lv_aload_n hx hb dL_law_458 rfl (lv_at hl 3 rfl) ?_
  refine lv_iload_n hx hb dL_law_459 rfl (lv_at hl 0 rfl) ?_
  refine lv_iconst (v := 5) hx hb dL_law_460 (by decide) ?_
  refine lv_iadd hx hb dL_law_461 ?_
  refine va_sld hx hb hX hbl hbA hS (z_sc hi hL (n := 5) (by decide) (by decide)) dL_law_462 ?_
  refine zi a5 ea5.symm ?_
  refine z_iL (wa := wm) (wb := w1) (va_runV (As := [.int a1, .int a2, .int a3, .int a4, .int a5]) (rest := []) ⟨hx, hb, hml, hown, hts⟩ (wX11_feed l dC dI kA _ n0 a1 a2 a3 a4 a5 hM0) (cwV 5 hts gL_law_X11_feed rfl rfl rfl ⟨rfl, hdX11_feed⟩ ⟨(Nat.le_of_ble_eq_true rfl), (Nat.le_of_ble_eq_true rfl)⟩) ⟨zPc.blind, MOK_rec hK hM0 (wp_P hP List.perm_append_comm), zPre hK (wl_P (wp_P hP List.perm_append_comm)) (wl_D (wp_D hD List.perm_append_comm))⟩ rfl rfl hl.1 rfl (lv_room (Nat.le_of_ble_eq_true rfl)) dL_law_463 ⟨hc2, hs2⟩) (wp_P hP List.perm_append_comm) (wp_D hD List.perm_append_comm) hS hA (fun r2 w2 H locs hw2 hP hD hS => ?_)
  have hP := wp_P hP (List.perm_append_comm)
  have hD := wp_D hD (List.perm_append_comm)
  refine lv_pop hx hb dL_law_466 rfl ?_
  refine lv_goto (tgt := 1730) hx hb dL_law_467 (by decide) ?_
  refine W.widen (k := cells + 40) (n := slots + 2000) (by omega) (by omega) ?_
  exact kk w1 w2 H locs ls ⟨_, _, _, hw1.2, hw2.2⟩ hP hD hS hl
set_option maxHeartbeats 4000000 in
set_option maxRecDepth 100000 in
theorem law_c6 {p : Program} {l : Launch} {e : Env} {s : State} {m : MethodId} {below : List Frame} {meth : Method} {c : Code} {b L : Nat} {xs : Nat → Int32} {dC : Nat → ClassId} {dI : Nat → Nat → Nat} {kA : Nat → ClassId} {aS vS : Nat} {oS : Option Nat} {x0 n0 : Nat} (C0 : lw_At p s m meth c b L xs) (hL : L ≤ 5120) (hK : zK dC dI kA s) (hZ : zStr aS vS oS (fun q : Nat => s.heap.size ≤ q) s s.heap) {i : Int32} (hi : 0 ≤ i.toInt ∧ i.toInt + 10 ≤ L) {cells slots : Nat} (hc : cells + 40 ≤ 600000) (hs : slots + 2000 ≤ 7302249) (kk : ∀ (wx wm : va_W) (H : Heap) (locs : List Loc) (ls : Array Slot), LInv kA x0 n0 wx wm → va_P (dC, dI) vwCl (wx ++ wm) H → va_D (fun q : Nat => s.heap.size ≤ q) (wx ++ wm) → va_S (fun q : Nat => s.heap.size ≤ q) s.heap H locs → lv_has ls 4 [(3, .int i), (2, .ref n0), (1, .ref x0), (0, .ref b)] → W p l e room_1 s m #[Value.ref b] below meth c H locs (cells + 40) (slots + 2000) (lw_Z below #[Value.ref b] s) (F0 m 1730 ls [])) (wx wm : va_W) (H : Heap) (locs : List Loc) (ls : Array Slot) (hI : LInv kA x0 n0 wx wm) (hP : va_P (dC, dI) vwCl (wx ++ wm) H) (hD : va_D (fun q : Nat => s.heap.size ≤ q) (wx ++ wm)) (hS : va_S (fun q : Nat => s.heap.size ≤ q) s.heap H locs) (hl : lv_has ls 4 [(3, .int i), (2, .ref n0), (1, .ref x0), (0, .ref b)]) : W p l e room_1 s m #[Value.ref b] below meth c H locs cells slots (lw_Z below #[Value.ref b] s) (F0 m 470 ls []) := by
  obtain ⟨hx, hb, hr, hml, hown0, hts0, hX, hbl, hlocks, hgv⟩ := C0
  have hown : s.vm.findClass RL = some m.cls := hown0
  have hts : ∀ w ∈ wsL_law, w.before #[Value.ref b] s = true := fun w h => hts0 w (wsL_law_in w h)
  have hA : ∀ q : Nat, s.heap.size ≤ q → (fun q : Nat => s.heap.size ≤ q) q := fun _ h => h
  have hbA : ¬ (fun q : Nat => s.heap.size ≤ q) b := Nat.not_le.mpr hbl
  obtain ⟨S_, LL, im, hX0, hM0⟩ := hI
  have hgd := MOK4_gd hM0
  have hxt := MOK4_xt hM0
  have hgr := MOK4_gr hM0
  have hgx := MOK4_gx hM0
  have hc1 : cells + 20 ≤ room_1.cells := by show cells + 20 ≤ 600000; omega
  have hs1 : slots + 1000 ≤ room_1.slots := by show slots + 1000 ≤ 7302249; omega
  have hc2 : cells + 20 + 20 ≤ room_1.cells := by show cells + 20 + 20 ≤ 600000; omega
  have hs2 : slots + 1000 + 1000 ≤ room_1.slots := by show slots + 1000 + 1000 ≤ 7302249; omega
  obtain ⟨a1, ea1⟩ : ∃ y : Int32, y = xs (i + 1).toNatClampNeg := ⟨_, rfl⟩
  refine lv_aload_n hx hb dL_law_470 rfl (lv_at hl 2 rfl) ?_
  refine lv_aload_n hx hb dL_law_471 rfl (lv_at hl 3 rfl) ?_
  refine lv_iload_n hx hb dL_law_472 rfl (lv_at hl 0 rfl) ?_
  refine lv_iconst (v := 1) hx hb dL_law_473 (by decide) ?_
  refine lv_iadd hx hb dL_law_474 ?_
  refine va_sld hx hb hX hbl hbA hS (z_sc hi hL (n := 1) (by decide) (by decide)) dL_law_475 ?_
  refine zi a1 ea1.symm ?_
  refine z_iL (wa := wx) (wb := wm) (va_runV (As := [.int a1]) (rest := []) ⟨hx, hb, hml, hown, hts⟩ (wX10_end l dC dI kA _ x0 a1 hX0 hgd hxt) (cwV 1 hts gL_law_X10_end rfl rfl rfl ⟨rfl, hdX10_end⟩ ⟨(Nat.le_of_ble_eq_true rfl), (Nat.le_of_ble_eq_true rfl)⟩) ⟨zPc.blind, XOK_rec hK hX0 hP, zPre hK (wl_P hP) (wl_D hD)⟩ rfl rfl hl.1 rfl (lv_room (Nat.le_of_ble_eq_true rfl)) dL_law_476 ⟨hc1, hs1⟩) hP hD hS hA (fun r1 w1 H locs hw1 hP hD hS => ?_)
  refine lv_pop hx hb dL_law_479 rfl ?_
  refine lv_aload_n hx hb dL_law_480 rfl (lv_at hl 1 rfl) ?_
  refine lv_aload_n hx hb dL_law_481 rfl (lv_at hl 3 rfl) ?_
  refine lv_iload_n hx hb dL_law_482 rfl (lv_at hl 0 rfl) ?_
  refine lv_iconst (v := 1) hx hb dL_law_483 (by decide) ?_
  refine lv_iadd hx hb dL_law_484 ?_
  refine va_sld hx hb hX hbl hbA hS (z_sc hi hL (n := 1) (by decide) (by decide)) dL_law_485 ?_
  refine zi a1 ea1.symm ?_
  refine z_iL (wa := wm) (wb := w1) (va_runV (As := [.int a1]) (rest := []) ⟨hx, hb, hml, hown, hts⟩ (wX11_end l dC dI kA _ n0 a1 hM0) (cwV 1 hts gL_law_X11_end rfl rfl rfl ⟨rfl, hdX11_end⟩ ⟨(Nat.le_of_ble_eq_true rfl), (Nat.le_of_ble_eq_true rfl)⟩) ⟨zPc.blind, MOK_rec hK hM0 (wp_P hP List.perm_append_comm), zPre hK (wl_P (wp_P hP List.perm_append_comm)) (wl_D (wp_D hD List.perm_append_comm))⟩ rfl rfl hl.1 rfl (lv_room (Nat.le_of_ble_eq_true rfl)) dL_law_486 ⟨hc2, hs2⟩) (wp_P hP List.perm_append_comm) (wp_D hD List.perm_append_comm) hS hA (fun r2 w2 H locs hw2 hP hD hS => ?_)
  have hP := wp_P hP (List.perm_append_comm)
  have hD := wp_D hD (List.perm_append_comm)
  refine lv_pop hx hb dL_law_489 rfl ?_
  refine lv_goto (tgt := 1730) hx hb dL_law_490 (by decide) ?_
  refine W.widen (k := cells + 40) (n := slots + 2000) (by omega) (by omega) ?_
  exact kk w1 w2 H locs ls ⟨_, _, _, hw1.2, hw2.2⟩ hP hD hS hl
set_option maxHeartbeats 4000000 in
set_option maxRecDepth 100000 in
theorem law_c7 {p : Program} {l : Launch} {e : Env} {s : State} {m : MethodId} {below : List Frame} {meth : Method} {c : Code} {b L : Nat} {xs : Nat → Int32} {dC : Nat → ClassId} {dI : Nat → Nat → Nat} {kA : Nat → ClassId} {aS vS : Nat} {oS : Option Nat} {x0 n0 : Nat} (C0 : lw_At p s m meth c b L xs) (hL : L ≤ 5120) (hK : zK dC dI kA s) (hZ : zStr aS vS oS (fun q : Nat => s.heap.size ≤ q) s s.heap) {i : Int32} (hi : 0 ≤ i.toInt ∧ i.toInt + 10 ≤ L) {cells slots : Nat} (hc : cells + 40 ≤ 600000) (hs : slots + 2000 ≤ 7302249) (kk : ∀ (wx wm : va_W) (H : Heap) (locs : List Loc) (ls : Array Slot), LInv kA x0 n0 wx wm → va_P (dC, dI) vwCl (wx ++ wm) H → va_D (fun q : Nat => s.heap.size ≤ q) (wx ++ wm) → va_S (fun q : Nat => s.heap.size ≤ q) s.heap H locs → lv_has ls 4 [(3, .int i), (2, .ref n0), (1, .ref x0), (0, .ref b)] → W p l e room_1 s m #[Value.ref b] below meth c H locs (cells + 40) (slots + 2000) (lw_Z below #[Value.ref b] s) (F0 m 1730 ls [])) (wx wm : va_W) (H : Heap) (locs : List Loc) (ls : Array Slot) (hI : LInv kA x0 n0 wx wm) (hP : va_P (dC, dI) vwCl (wx ++ wm) H) (hD : va_D (fun q : Nat => s.heap.size ≤ q) (wx ++ wm)) (hS : va_S (fun q : Nat => s.heap.size ≤ q) s.heap H locs) (hl : lv_has ls 4 [(3, .int i), (2, .ref n0), (1, .ref x0), (0, .ref b)]) : W p l e room_1 s m #[Value.ref b] below meth c H locs cells slots (lw_Z below #[Value.ref b] s) (F0 m 493 ls []) := by
  obtain ⟨hx, hb, hr, hml, hown0, hts0, hX, hbl, hlocks, hgv⟩ := C0
  have hown : s.vm.findClass RL = some m.cls := hown0
  have hts : ∀ w ∈ wsL_law, w.before #[Value.ref b] s = true := fun w h => hts0 w (wsL_law_in w h)
  have hA : ∀ q : Nat, s.heap.size ≤ q → (fun q : Nat => s.heap.size ≤ q) q := fun _ h => h
  have hbA : ¬ (fun q : Nat => s.heap.size ≤ q) b := Nat.not_le.mpr hbl
  obtain ⟨S_, LL, im, hX0, hM0⟩ := hI
  have hgd := MOK4_gd hM0
  have hxt := MOK4_xt hM0
  have hgr := MOK4_gr hM0
  have hgx := MOK4_gx hM0
  have hc1 : cells + 20 ≤ room_1.cells := by show cells + 20 ≤ 600000; omega
  have hs1 : slots + 1000 ≤ room_1.slots := by show slots + 1000 ≤ 7302249; omega
  have hc2 : cells + 20 + 20 ≤ room_1.cells := by show cells + 20 + 20 ≤ 600000; omega
  have hs2 : slots + 1000 + 1000 ≤ room_1.slots := by show slots + 1000 + 1000 ≤ 7302249; omega
  refine lv_aload_n hx hb dL_law_493 rfl (lv_at hl 2 rfl) ?_
  refine z_iL (wa := wx) (wb := wm) (va_runV (As := []) (rest := []) ⟨hx, hb, hml, hown, hts⟩ (wX10_law l dC dI kA _ aS vS oS x0  hX0 hgd hxt hgr hgx) (cwV 0 hts gL_law_X10_law rfl rfl rfl ⟨rfl, hdX10_law⟩ ⟨(Nat.le_of_ble_eq_true rfl), (Nat.le_of_ble_eq_true rfl)⟩) ⟨zPcS.blind, XOK_rec hK hX0 hP, zPreS hK (wl_P hP) (wl_D hD) hZ hS (wl_F hD hS hA)⟩ rfl rfl hl.1 rfl (lv_room (Nat.le_of_ble_eq_true rfl)) dL_law_494 ⟨hc1, hs1⟩) hP hD hS hA (fun r1 w1 H locs hw1 hP hD hS => ?_)
  refine lv_pop hx hb dL_law_497 rfl ?_
  refine lv_aload_n hx hb dL_law_498 rfl (lv_at hl 1 rfl) ?_
  refine z_iL (wa := wm) (wb := w1) (va_runV (As := []) (rest := []) ⟨hx, hb, hml, hown, hts⟩ (wX11_law l dC dI kA _ n0  hM0) (cwV 0 hts gL_law_X11_law rfl rfl rfl ⟨rfl, hdX11_law⟩ ⟨(Nat.le_of_ble_eq_true rfl), (Nat.le_of_ble_eq_true rfl)⟩) ⟨zPc.blind, MOK_rec hK hM0 (wp_P hP List.perm_append_comm), zPre hK (wl_P (wp_P hP List.perm_append_comm)) (wl_D (wp_D hD List.perm_append_comm))⟩ rfl rfl hl.1 rfl (lv_room (Nat.le_of_ble_eq_true rfl)) dL_law_499 ⟨hc2, hs2⟩) (wp_P hP List.perm_append_comm) (wp_D hD List.perm_append_comm) hS hA (fun r2 w2 H locs hw2 hP hD hS => ?_)
  have hP := wp_P hP (List.perm_append_comm)
  have hD := wp_D hD (List.perm_append_comm)
  refine lv_pop hx hb dL_law_502 rfl ?_
  refine lv_goto (tgt := 1730) hx hb dL_law_503 (by decide) ?_
  refine W.widen (k := cells + 40) (n := slots + 2000) (by omega) (by omega) ?_
  exact kk w1 w2 H locs ls ⟨_, _, _, hw1.2, hw2.2⟩ hP hD hS hl
set_option maxHeartbeats 4000000 in
set_option maxRecDepth 100000 in
theorem law_c8 {p : Program} {l : Launch} {e : Env} {s : State} {m : MethodId} {below : List Frame} {meth : Method} {c : Code} {b L : Nat} {xs : Nat → Int32} {dC : Nat → ClassId} {dI : Nat → Nat → Nat} {kA : Nat → ClassId} {aS vS : Nat} {oS : Option Nat} {x0 n0 : Nat} (C0 : lw_At p s m meth c b L xs) (hL : L ≤ 5120) (hK : zK dC dI kA s) (hZ : zStr aS vS oS (fun q : Nat => s.heap.size ≤ q) s s.heap) {i : Int32} (hi : 0 ≤ i.toInt ∧ i.toInt + 10 ≤ L) {cells slots : Nat} (hc : cells + 40 ≤ 600000) (hs : slots + 2000 ≤ 7302249) (kk : ∀ (wx wm : va_W) (H : Heap) (locs : List Loc) (ls : Array Slot), LInv kA x0 n0 wx wm → va_P (dC, dI) vwCl (wx ++ wm) H → va_D (fun q : Nat => s.heap.size ≤ q) (wx ++ wm) → va_S (fun q : Nat => s.heap.size ≤ q) s.heap H locs → lv_has ls 4 [(3, .int i), (2, .ref n0), (1, .ref x0), (0, .ref b)] → W p l e room_1 s m #[Value.ref b] below meth c H locs (cells + 40) (slots + 2000) (lw_Z below #[Value.ref b] s) (F0 m 1730 ls [])) (wx wm : va_W) (H : Heap) (locs : List Loc) (ls : Array Slot) (hI : LInv kA x0 n0 wx wm) (hP : va_P (dC, dI) vwCl (wx ++ wm) H) (hD : va_D (fun q : Nat => s.heap.size ≤ q) (wx ++ wm)) (hS : va_S (fun q : Nat => s.heap.size ≤ q) s.heap H locs) (hl : lv_has ls 4 [(3, .int i), (2, .ref n0), (1, .ref x0), (0, .ref b)]) : W p l e room_1 s m #[Value.ref b] below meth c H locs cells slots (lw_Z below #[Value.ref b] s) (F0 m 506 ls []) := by
  obtain ⟨hx, hb, hr, hml, hown0, hts0, hX, hbl, hlocks, hgv⟩ := C0
  have hown : s.vm.findClass RL = some m.cls := hown0
  have hts : ∀ w ∈ wsL_law, w.before #[Value.ref b] s = true := fun w h => hts0 w (wsL_law_in w h)
  have hA : ∀ q : Nat, s.heap.size ≤ q → (fun q : Nat => s.heap.size ≤ q) q := fun _ h => h
  have hbA : ¬ (fun q : Nat => s.heap.size ≤ q) b := Nat.not_le.mpr hbl
  obtain ⟨S_, LL, im, hX0, hM0⟩ := hI
  have hgd := MOK4_gd hM0
  have hxt := MOK4_xt hM0
  have hgr := MOK4_gr hM0
  have hgx := MOK4_gx hM0
  have hc1 : cells + 20 ≤ room_1.cells := by show cells + 20 ≤ 600000; omega
  have hs1 : slots + 1000 ≤ room_1.slots := by show slots + 1000 ≤ 7302249; omega
  have hc2 : cells + 20 + 20 ≤ room_1.cells := by show cells + 20 + 20 ≤ 600000; omega
  have hs2 : slots + 1000 + 1000 ≤ room_1.slots := by show slots + 1000 + 1000 ≤ 7302249; omega
  obtain ⟨a1, ea1⟩ : ∃ y : Int32, y = xs (i + 1).toNatClampNeg := ⟨_, rfl⟩
  obtain ⟨a2, ea2⟩ : ∃ y : Int32, y = xs (i + 2).toNatClampNeg := ⟨_, rfl⟩
  refine lv_aload_n hx hb dL_law_506 rfl (lv_at hl 2 rfl) ?_
  refine lv_aload_n hx hb dL_law_507 rfl (lv_at hl 3 rfl) ?_
  refine lv_iload_n hx hb dL_law_508 rfl (lv_at hl 0 rfl) ?_
  refine lv_iconst (v := 1) hx hb dL_law_509 (by decide) ?_
  refine lv_iadd hx hb dL_law_510 ?_
  refine va_sld hx hb hX hbl hbA hS (z_sc hi hL (n := 1) (by decide) (by decide)) dL_law_511 ?_
  refine zi a1 ea1.symm ?_
  refine lv_aload_n hx hb dL_law_512 rfl (lv_at hl 3 rfl) ?_
  refine lv_iload_n hx hb dL_law_513 rfl (lv_at hl 0 rfl) ?_
  refine lv_iconst (v := 2) hx hb dL_law_514 (by decide) ?_
  refine lv_iadd hx hb dL_law_515 ?_
  refine va_sld hx hb hX hbl hbA hS (z_sc hi hL (n := 2) (by decide) (by decide)) dL_law_516 ?_
  refine zi a2 ea2.symm ?_
  refine z_iL (wa := wx) (wb := wm) (va_runV (As := [.int a1, .int a2]) (rest := []) ⟨hx, hb, hml, hown, hts⟩ (wX10_fill l dC dI kA _ x0 a1 a2 hX0 hgd hxt) (cwV 2 hts gL_law_X10_fill rfl rfl rfl ⟨rfl, hdX10_fill⟩ ⟨(Nat.le_of_ble_eq_true rfl), (Nat.le_of_ble_eq_true rfl)⟩) ⟨zPc.blind, XOK_rec hK hX0 hP, zPre hK (wl_P hP) (wl_D hD)⟩ rfl rfl hl.1 rfl (lv_room (Nat.le_of_ble_eq_true rfl)) dL_law_517 ⟨hc1, hs1⟩) hP hD hS hA (fun r1 w1 H locs hw1 hP hD hS => ?_)
  refine lv_pop hx hb dL_law_520 rfl ?_
  refine lv_aload_n hx hb dL_law_521 rfl (lv_at hl 1 rfl) ?_
  refine lv_aload_n hx hb dL_law_522 rfl (lv_at hl 3 rfl) ?_
  refine lv_iload_n hx hb dL_law_523 rfl (lv_at hl 0 rfl) ?_
  refine lv_iconst (v := 1) hx hb dL_law_524 (by decide) ?_
  refine lv_iadd hx hb dL_law_525 ?_
  refine va_sld hx hb hX hbl hbA hS (z_sc hi hL (n := 1) (by decide) (by decide)) dL_law_526 ?_
  refine zi a1 ea1.symm ?_
  refine lv_aload_n hx hb dL_law_527 rfl (lv_at hl 3 rfl) ?_
  refine lv_iload_n hx hb dL_law_528 rfl (lv_at hl 0 rfl) ?_
  refine lv_iconst (v := 2) hx hb dL_law_529 (by decide) ?_
  refine lv_iadd hx hb dL_law_530 ?_
  refine va_sld hx hb hX hbl hbA hS (z_sc hi hL (n := 2) (by decide) (by decide)) dL_law_531 ?_
  refine zi a2 ea2.symm ?_
  refine z_iL (wa := wm) (wb := w1) (va_runV (As := [.int a1, .int a2]) (rest := []) ⟨hx, hb, hml, hown, hts⟩ (wX11_fill l dC dI kA _ n0 a1 a2 hM0) (cwV 2 hts gL_law_X11_fill rfl rfl rfl ⟨rfl, hdX11_fill⟩ ⟨(Nat.le_of_ble_eq_true rfl), (Nat.le_of_ble_eq_true rfl)⟩) ⟨zPc.blind, MOK_rec hK hM0 (wp_P hP List.perm_append_comm), zPre hK (wl_P (wp_P hP List.perm_append_comm)) (wl_D (wp_D hD List.perm_append_comm))⟩ rfl rfl hl.1 rfl (lv_room (Nat.le_of_ble_eq_true rfl)) dL_law_532 ⟨hc2, hs2⟩) (wp_P hP List.perm_append_comm) (wp_D hD List.perm_append_comm) hS hA (fun r2 w2 H locs hw2 hP hD hS => ?_)
  have hP := wp_P hP (List.perm_append_comm)
  have hD := wp_D hD (List.perm_append_comm)
  refine lv_pop hx hb dL_law_535 rfl ?_
  refine lv_goto (tgt := 1730) hx hb dL_law_536 (by decide) ?_
  refine W.widen (k := cells + 40) (n := slots + 2000) (by omega) (by omega) ?_
  exact kk w1 w2 H locs ls ⟨_, _, _, hw1.2, hw2.2⟩ hP hD hS hl
set_option maxHeartbeats 4000000 in
set_option maxRecDepth 100000 in
theorem law_c9 {p : Program} {l : Launch} {e : Env} {s : State} {m : MethodId} {below : List Frame} {meth : Method} {c : Code} {b L : Nat} {xs : Nat → Int32} {dC : Nat → ClassId} {dI : Nat → Nat → Nat} {kA : Nat → ClassId} {aS vS : Nat} {oS : Option Nat} {x0 n0 : Nat} (C0 : lw_At p s m meth c b L xs) (hL : L ≤ 5120) (hK : zK dC dI kA s) (hZ : zStr aS vS oS (fun q : Nat => s.heap.size ≤ q) s s.heap) {i : Int32} (hi : 0 ≤ i.toInt ∧ i.toInt + 10 ≤ L) {cells slots : Nat} (hc : cells + 40 ≤ 600000) (hs : slots + 2000 ≤ 7302249) (kk : ∀ (wx wm : va_W) (H : Heap) (locs : List Loc) (ls : Array Slot), LInv kA x0 n0 wx wm → va_P (dC, dI) vwCl (wx ++ wm) H → va_D (fun q : Nat => s.heap.size ≤ q) (wx ++ wm) → va_S (fun q : Nat => s.heap.size ≤ q) s.heap H locs → lv_has ls 4 [(3, .int i), (2, .ref n0), (1, .ref x0), (0, .ref b)] → W p l e room_1 s m #[Value.ref b] below meth c H locs (cells + 40) (slots + 2000) (lw_Z below #[Value.ref b] s) (F0 m 1730 ls [])) (wx wm : va_W) (H : Heap) (locs : List Loc) (ls : Array Slot) (hI : LInv kA x0 n0 wx wm) (hP : va_P (dC, dI) vwCl (wx ++ wm) H) (hD : va_D (fun q : Nat => s.heap.size ≤ q) (wx ++ wm)) (hS : va_S (fun q : Nat => s.heap.size ≤ q) s.heap H locs) (hl : lv_has ls 4 [(3, .int i), (2, .ref n0), (1, .ref x0), (0, .ref b)]) : W p l e room_1 s m #[Value.ref b] below meth c H locs cells slots (lw_Z below #[Value.ref b] s) (F0 m 539 ls []) := by
  obtain ⟨hx, hb, hr, hml, hown0, hts0, hX, hbl, hlocks, hgv⟩ := C0
  have hown : s.vm.findClass RL = some m.cls := hown0
  have hts : ∀ w ∈ wsL_law, w.before #[Value.ref b] s = true := fun w h => hts0 w (wsL_law_in w h)
  have hA : ∀ q : Nat, s.heap.size ≤ q → (fun q : Nat => s.heap.size ≤ q) q := fun _ h => h
  have hbA : ¬ (fun q : Nat => s.heap.size ≤ q) b := Nat.not_le.mpr hbl
  obtain ⟨S_, LL, im, hX0, hM0⟩ := hI
  have hgd := MOK4_gd hM0
  have hxt := MOK4_xt hM0
  have hgr := MOK4_gr hM0
  have hgx := MOK4_gx hM0
  have hc1 : cells + 20 ≤ room_1.cells := by show cells + 20 ≤ 600000; omega
  have hs1 : slots + 1000 ≤ room_1.slots := by show slots + 1000 ≤ 7302249; omega
  have hc2 : cells + 20 + 20 ≤ room_1.cells := by show cells + 20 + 20 ≤ 600000; omega
  have hs2 : slots + 1000 + 1000 ≤ room_1.slots := by show slots + 1000 + 1000 ≤ 7302249; omega
  obtain ⟨a1, ea1⟩ : ∃ y : Int32, y = xs (i + 1).toNatClampNeg := ⟨_, rfl⟩
  refine lv_aload_n hx hb dL_law_539 rfl (lv_at hl 2 rfl) ?_
  refine lv_aload_n hx hb dL_law_540 rfl (lv_at hl 3 rfl) ?_
  refine lv_iload_n hx hb dL_law_541 rfl (lv_at hl 0 rfl) ?_
  refine lv_iconst (v := 1) hx hb dL_law_542 (by decide) ?_
  refine lv_iadd hx hb dL_law_543 ?_
  refine va_sld hx hb hX hbl hbA hS (z_sc hi hL (n := 1) (by decide) (by decide)) dL_law_544 ?_
  refine zi a1 ea1.symm ?_
  refine z_iL (wa := wx) (wb := wm) (va_runV (As := [.int a1]) (rest := []) ⟨hx, hb, hml, hown, hts⟩ (wX10_pour l dC dI kA _ x0 a1 hX0 hgd hxt) (cwV 1 hts gL_law_X10_pour rfl rfl rfl ⟨rfl, hdX10_pour⟩ ⟨(Nat.le_of_ble_eq_true rfl), (Nat.le_of_ble_eq_true rfl)⟩) ⟨zPc.blind, XOK_rec hK hX0 hP, zPre hK (wl_P hP) (wl_D hD)⟩ rfl rfl hl.1 rfl (lv_room (Nat.le_of_ble_eq_true rfl)) dL_law_545 ⟨hc1, hs1⟩) hP hD hS hA (fun r1 w1 H locs hw1 hP hD hS => ?_)
  refine lv_pop hx hb dL_law_548 rfl ?_
  refine lv_aload_n hx hb dL_law_549 rfl (lv_at hl 1 rfl) ?_
  refine lv_aload_n hx hb dL_law_550 rfl (lv_at hl 3 rfl) ?_
  refine lv_iload_n hx hb dL_law_551 rfl (lv_at hl 0 rfl) ?_
  refine lv_iconst (v := 1) hx hb dL_law_552 (by decide) ?_
  refine lv_iadd hx hb dL_law_553 ?_
  refine va_sld hx hb hX hbl hbA hS (z_sc hi hL (n := 1) (by decide) (by decide)) dL_law_554 ?_
  refine zi a1 ea1.symm ?_
  refine z_iL (wa := wm) (wb := w1) (va_runV (As := [.int a1]) (rest := []) ⟨hx, hb, hml, hown, hts⟩ (wX11_pour l dC dI kA _ n0 a1 hM0) (cwV 1 hts gL_law_X11_pour rfl rfl rfl ⟨rfl, hdX11_pour⟩ ⟨(Nat.le_of_ble_eq_true rfl), (Nat.le_of_ble_eq_true rfl)⟩) ⟨zPc.blind, MOK_rec hK hM0 (wp_P hP List.perm_append_comm), zPre hK (wl_P (wp_P hP List.perm_append_comm)) (wl_D (wp_D hD List.perm_append_comm))⟩ rfl rfl hl.1 rfl (lv_room (Nat.le_of_ble_eq_true rfl)) dL_law_555 ⟨hc2, hs2⟩) (wp_P hP List.perm_append_comm) (wp_D hD List.perm_append_comm) hS hA (fun r2 w2 H locs hw2 hP hD hS => ?_)
  have hP := wp_P hP (List.perm_append_comm)
  have hD := wp_D hD (List.perm_append_comm)
  refine lv_pop hx hb dL_law_558 rfl ?_
  refine lv_goto (tgt := 1730) hx hb dL_law_559 (by decide) ?_
  refine W.widen (k := cells + 40) (n := slots + 2000) (by omega) (by omega) ?_
  exact kk w1 w2 H locs ls ⟨_, _, _, hw1.2, hw2.2⟩ hP hD hS hl
set_option maxHeartbeats 4000000 in
set_option maxRecDepth 100000 in
theorem law_c10 {p : Program} {l : Launch} {e : Env} {s : State} {m : MethodId} {below : List Frame} {meth : Method} {c : Code} {b L : Nat} {xs : Nat → Int32} {dC : Nat → ClassId} {dI : Nat → Nat → Nat} {kA : Nat → ClassId} {aS vS : Nat} {oS : Option Nat} {x0 n0 : Nat} (C0 : lw_At p s m meth c b L xs) (hL : L ≤ 5120) (hK : zK dC dI kA s) (hZ : zStr aS vS oS (fun q : Nat => s.heap.size ≤ q) s s.heap) {i : Int32} (hi : 0 ≤ i.toInt ∧ i.toInt + 10 ≤ L) {cells slots : Nat} (hc : cells + 40 ≤ 600000) (hs : slots + 2000 ≤ 7302249) (kk : ∀ (wx wm : va_W) (H : Heap) (locs : List Loc) (ls : Array Slot), LInv kA x0 n0 wx wm → va_P (dC, dI) vwCl (wx ++ wm) H → va_D (fun q : Nat => s.heap.size ≤ q) (wx ++ wm) → va_S (fun q : Nat => s.heap.size ≤ q) s.heap H locs → lv_has ls 4 [(3, .int i), (2, .ref n0), (1, .ref x0), (0, .ref b)] → W p l e room_1 s m #[Value.ref b] below meth c H locs (cells + 40) (slots + 2000) (lw_Z below #[Value.ref b] s) (F0 m 1730 ls [])) (wx wm : va_W) (H : Heap) (locs : List Loc) (ls : Array Slot) (hI : LInv kA x0 n0 wx wm) (hP : va_P (dC, dI) vwCl (wx ++ wm) H) (hD : va_D (fun q : Nat => s.heap.size ≤ q) (wx ++ wm)) (hS : va_S (fun q : Nat => s.heap.size ≤ q) s.heap H locs) (hl : lv_has ls 4 [(3, .int i), (2, .ref n0), (1, .ref x0), (0, .ref b)]) : W p l e room_1 s m #[Value.ref b] below meth c H locs cells slots (lw_Z below #[Value.ref b] s) (F0 m 562 ls []) := by
  obtain ⟨hx, hb, hr, hml, hown0, hts0, hX, hbl, hlocks, hgv⟩ := C0
  have hown : s.vm.findClass RL = some m.cls := hown0
  have hts : ∀ w ∈ wsL_law, w.before #[Value.ref b] s = true := fun w h => hts0 w (wsL_law_in w h)
  have hA : ∀ q : Nat, s.heap.size ≤ q → (fun q : Nat => s.heap.size ≤ q) q := fun _ h => h
  have hbA : ¬ (fun q : Nat => s.heap.size ≤ q) b := Nat.not_le.mpr hbl
  obtain ⟨S_, LL, im, hX0, hM0⟩ := hI
  have hgd := MOK4_gd hM0
  have hxt := MOK4_xt hM0
  have hgr := MOK4_gr hM0
  have hgx := MOK4_gx hM0
  have hc1 : cells + 20 ≤ room_1.cells := by show cells + 20 ≤ 600000; omega
  have hs1 : slots + 1000 ≤ room_1.slots := by show slots + 1000 ≤ 7302249; omega
  have hc2 : cells + 20 + 20 ≤ room_1.cells := by show cells + 20 + 20 ≤ 600000; omega
  have hs2 : slots + 1000 + 1000 ≤ room_1.slots := by show slots + 1000 + 1000 ≤ 7302249; omega
  obtain ⟨a1, ea1⟩ : ∃ y : Int32, y = xs (i + 1).toNatClampNeg := ⟨_, rfl⟩
  obtain ⟨a2, ea2⟩ : ∃ y : Int32, y = xs (i + 2).toNatClampNeg := ⟨_, rfl⟩
  refine lv_aload_n hx hb dL_law_562 rfl (lv_at hl 2 rfl) ?_
  refine lv_aload_n hx hb dL_law_563 rfl (lv_at hl 3 rfl) ?_
  refine lv_iload_n hx hb dL_law_564 rfl (lv_at hl 0 rfl) ?_
  refine lv_iconst (v := 1) hx hb dL_law_565 (by decide) ?_
  refine lv_iadd hx hb dL_law_566 ?_
  refine va_sld hx hb hX hbl hbA hS (z_sc hi hL (n := 1) (by decide) (by decide)) dL_law_567 ?_
  refine zi a1 ea1.symm ?_
  refine lv_aload_n hx hb dL_law_568 rfl (lv_at hl 3 rfl) ?_
  refine lv_iload_n hx hb dL_law_569 rfl (lv_at hl 0 rfl) ?_
  refine lv_iconst (v := 2) hx hb dL_law_570 (by decide) ?_
  refine lv_iadd hx hb dL_law_571 ?_
  refine va_sld hx hb hX hbl hbA hS (z_sc hi hL (n := 2) (by decide) (by decide)) dL_law_572 ?_
  refine zi a2 ea2.symm ?_
  refine z_iL (wa := wx) (wb := wm) (va_runV (As := [.int a1, .int a2]) (rest := []) ⟨hx, hb, hml, hown, hts⟩ (wX10_store l dC dI kA _ x0 a1 a2 hX0 hgd hxt) (cwV 2 hts gL_law_X10_store rfl rfl rfl ⟨rfl, hdX10_store⟩ ⟨(Nat.le_of_ble_eq_true rfl), (Nat.le_of_ble_eq_true rfl)⟩) ⟨zPc.blind, XOK_rec hK hX0 hP, zPre hK (wl_P hP) (wl_D hD)⟩ rfl rfl hl.1 rfl (lv_room (Nat.le_of_ble_eq_true rfl)) dL_law_573 ⟨hc1, hs1⟩) hP hD hS hA (fun r1 w1 H locs hw1 hP hD hS => ?_)
  refine lv_pop hx hb dL_law_576 rfl ?_
  refine lv_aload_n hx hb dL_law_577 rfl (lv_at hl 1 rfl) ?_
  refine lv_aload_n hx hb dL_law_578 rfl (lv_at hl 3 rfl) ?_
  refine lv_iload_n hx hb dL_law_579 rfl (lv_at hl 0 rfl) ?_
  refine lv_iconst (v := 1) hx hb dL_law_580 (by decide) ?_
  refine lv_iadd hx hb dL_law_581 ?_
  refine va_sld hx hb hX hbl hbA hS (z_sc hi hL (n := 1) (by decide) (by decide)) dL_law_582 ?_
  refine zi a1 ea1.symm ?_
  refine lv_aload_n hx hb dL_law_583 rfl (lv_at hl 3 rfl) ?_
  refine lv_iload_n hx hb dL_law_584 rfl (lv_at hl 0 rfl) ?_
  refine lv_iconst (v := 2) hx hb dL_law_585 (by decide) ?_
  refine lv_iadd hx hb dL_law_586 ?_
  refine va_sld hx hb hX hbl hbA hS (z_sc hi hL (n := 2) (by decide) (by decide)) dL_law_587 ?_
  refine zi a2 ea2.symm ?_
  refine z_iL (wa := wm) (wb := w1) (va_runV (As := [.int a1, .int a2]) (rest := []) ⟨hx, hb, hml, hown, hts⟩ (wX11_store l dC dI kA _ n0 a1 a2 hM0) (cwV 2 hts gL_law_X11_store rfl rfl rfl ⟨rfl, hdX11_store⟩ ⟨(Nat.le_of_ble_eq_true rfl), (Nat.le_of_ble_eq_true rfl)⟩) ⟨zPc.blind, MOK_rec hK hM0 (wp_P hP List.perm_append_comm), zPre hK (wl_P (wp_P hP List.perm_append_comm)) (wl_D (wp_D hD List.perm_append_comm))⟩ rfl rfl hl.1 rfl (lv_room (Nat.le_of_ble_eq_true rfl)) dL_law_588 ⟨hc2, hs2⟩) (wp_P hP List.perm_append_comm) (wp_D hD List.perm_append_comm) hS hA (fun r2 w2 H locs hw2 hP hD hS => ?_)
  have hP := wp_P hP (List.perm_append_comm)
  have hD := wp_D hD (List.perm_append_comm)
  refine lv_pop hx hb dL_law_591 rfl ?_
  refine lv_goto (tgt := 1730) hx hb dL_law_592 (by decide) ?_
  refine W.widen (k := cells + 40) (n := slots + 2000) (by omega) (by omega) ?_
  exact kk w1 w2 H locs ls ⟨_, _, _, hw1.2, hw2.2⟩ hP hD hS hl
set_option maxHeartbeats 4000000 in
set_option maxRecDepth 100000 in
theorem law_c11 {p : Program} {l : Launch} {e : Env} {s : State} {m : MethodId} {below : List Frame} {meth : Method} {c : Code} {b L : Nat} {xs : Nat → Int32} {dC : Nat → ClassId} {dI : Nat → Nat → Nat} {kA : Nat → ClassId} {aS vS : Nat} {oS : Option Nat} {x0 n0 : Nat} (C0 : lw_At p s m meth c b L xs) (hL : L ≤ 5120) (hK : zK dC dI kA s) (hZ : zStr aS vS oS (fun q : Nat => s.heap.size ≤ q) s s.heap) {i : Int32} (hi : 0 ≤ i.toInt ∧ i.toInt + 10 ≤ L) {cells slots : Nat} (hc : cells + 40 ≤ 600000) (hs : slots + 2000 ≤ 7302249) (kk : ∀ (wx wm : va_W) (H : Heap) (locs : List Loc) (ls : Array Slot), LInv kA x0 n0 wx wm → va_P (dC, dI) vwCl (wx ++ wm) H → va_D (fun q : Nat => s.heap.size ≤ q) (wx ++ wm) → va_S (fun q : Nat => s.heap.size ≤ q) s.heap H locs → lv_has ls 4 [(3, .int i), (2, .ref n0), (1, .ref x0), (0, .ref b)] → W p l e room_1 s m #[Value.ref b] below meth c H locs (cells + 40) (slots + 2000) (lw_Z below #[Value.ref b] s) (F0 m 1730 ls [])) (wx wm : va_W) (H : Heap) (locs : List Loc) (ls : Array Slot) (hI : LInv kA x0 n0 wx wm) (hP : va_P (dC, dI) vwCl (wx ++ wm) H) (hD : va_D (fun q : Nat => s.heap.size ≤ q) (wx ++ wm)) (hS : va_S (fun q : Nat => s.heap.size ≤ q) s.heap H locs) (hl : lv_has ls 4 [(3, .int i), (2, .ref n0), (1, .ref x0), (0, .ref b)]) : W p l e room_1 s m #[Value.ref b] below meth c H locs cells slots (lw_Z below #[Value.ref b] s) (F0 m 595 ls []) := by
  obtain ⟨hx, hb, hr, hml, hown0, hts0, hX, hbl, hlocks, hgv⟩ := C0
  have hown : s.vm.findClass RL = some m.cls := hown0
  have hts : ∀ w ∈ wsL_law, w.before #[Value.ref b] s = true := fun w h => hts0 w (wsL_law_in w h)
  have hA : ∀ q : Nat, s.heap.size ≤ q → (fun q : Nat => s.heap.size ≤ q) q := fun _ h => h
  have hbA : ¬ (fun q : Nat => s.heap.size ≤ q) b := Nat.not_le.mpr hbl
  obtain ⟨S_, LL, im, hX0, hM0⟩ := hI
  have hgd := MOK4_gd hM0
  have hxt := MOK4_xt hM0
  have hgr := MOK4_gr hM0
  have hgx := MOK4_gx hM0
  have hc1 : cells + 20 ≤ room_1.cells := by show cells + 20 ≤ 600000; omega
  have hs1 : slots + 1000 ≤ room_1.slots := by show slots + 1000 ≤ 7302249; omega
  have hc2 : cells + 20 + 20 ≤ room_1.cells := by show cells + 20 + 20 ≤ 600000; omega
  have hs2 : slots + 1000 + 1000 ≤ room_1.slots := by show slots + 1000 + 1000 ≤ 7302249; omega
  obtain ⟨a1, ea1⟩ : ∃ y : Int32, y = xs (i + 1).toNatClampNeg := ⟨_, rfl⟩
  obtain ⟨a2, ea2⟩ : ∃ y : Int32, y = xs (i + 2).toNatClampNeg := ⟨_, rfl⟩
  refine lv_aload_n hx hb dL_law_595 rfl (lv_at hl 2 rfl) ?_
  refine lv_aload_n hx hb dL_law_596 rfl (lv_at hl 3 rfl) ?_
  refine lv_iload_n hx hb dL_law_597 rfl (lv_at hl 0 rfl) ?_
  refine lv_iconst (v := 1) hx hb dL_law_598 (by decide) ?_
  refine lv_iadd hx hb dL_law_599 ?_
  refine va_sld hx hb hX hbl hbA hS (z_sc hi hL (n := 1) (by decide) (by decide)) dL_law_600 ?_
  refine zi a1 ea1.symm ?_
  refine lv_aload_n hx hb dL_law_601 rfl (lv_at hl 3 rfl) ?_
  refine lv_iload_n hx hb dL_law_602 rfl (lv_at hl 0 rfl) ?_
  refine lv_iconst (v := 2) hx hb dL_law_603 (by decide) ?_
  refine lv_iadd hx hb dL_law_604 ?_
  refine va_sld hx hb hX hbl hbA hS (z_sc hi hL (n := 2) (by decide) (by decide)) dL_law_605 ?_
  refine zi a2 ea2.symm ?_
  refine z_iL (wa := wx) (wb := wm) (va_runV (As := [.int a1, .int a2]) (rest := []) ⟨hx, hb, hml, hown, hts⟩ (wX10_leave l dC dI kA _ x0 a1 a2 hX0 hgd hxt) (cwV 2 hts gL_law_X10_leave rfl rfl rfl ⟨rfl, hdX10_leave⟩ ⟨(Nat.le_of_ble_eq_true rfl), (Nat.le_of_ble_eq_true rfl)⟩) ⟨zPc.blind, XOK_rec hK hX0 hP, zPre hK (wl_P hP) (wl_D hD)⟩ rfl rfl hl.1 rfl (lv_room (Nat.le_of_ble_eq_true rfl)) dL_law_606 ⟨hc1, hs1⟩) hP hD hS hA (fun r1 w1 H locs hw1 hP hD hS => ?_)
  refine lv_aload_n hx hb dL_law_609 rfl (lv_at hl 1 rfl) ?_
  refine lv_aload_n hx hb dL_law_610 rfl (lv_at hl 3 rfl) ?_
  refine lv_iload_n hx hb dL_law_611 rfl (lv_at hl 0 rfl) ?_
  refine lv_iconst (v := 1) hx hb dL_law_612 (by decide) ?_
  refine lv_iadd hx hb dL_law_613 ?_
  refine va_sld hx hb hX hbl hbA hS (z_sc hi hL (n := 1) (by decide) (by decide)) dL_law_614 ?_
  refine zi a1 ea1.symm ?_
  refine lv_aload_n hx hb dL_law_615 rfl (lv_at hl 3 rfl) ?_
  refine lv_iload_n hx hb dL_law_616 rfl (lv_at hl 0 rfl) ?_
  refine lv_iconst (v := 2) hx hb dL_law_617 (by decide) ?_
  refine lv_iadd hx hb dL_law_618 ?_
  refine va_sld hx hb hX hbl hbA hS (z_sc hi hL (n := 2) (by decide) (by decide)) dL_law_619 ?_
  refine zi a2 ea2.symm ?_
  refine z_iL (wa := wm) (wb := w1) (va_runV (As := [.int a1, .int a2]) (rest := [.int r1]) ⟨hx, hb, hml, hown, hts⟩ (wX11_leave l dC dI kA _ n0 a1 a2 hM0) (cwV 2 hts gL_law_X11_leave rfl rfl rfl ⟨rfl, hdX11_leave⟩ ⟨(Nat.le_of_ble_eq_true rfl), (Nat.le_of_ble_eq_true rfl)⟩) ⟨zPc.blind, MOK_rec hK hM0 (wp_P hP List.perm_append_comm), zPre hK (wl_P (wp_P hP List.perm_append_comm)) (wl_D (wp_D hD List.perm_append_comm))⟩ rfl rfl hl.1 rfl (lv_room (Nat.le_of_ble_eq_true rfl)) dL_law_620 ⟨hc2, hs2⟩) (wp_P hP List.perm_append_comm) (wp_D hD List.perm_append_comm) hS hA (fun r2 w2 H locs hw2 hP hD hS => ?_)
  have hP := wp_P hP (List.perm_append_comm)
  have hD := wp_D hD (List.perm_append_comm)
  refine lv_icmp_eq (tgt := 1730) hx hb dL_law_623 (by decide) (fun _ => ?_) (fun q9 => absurd (hw1.1.trans hw2.1.symm) q9)
  refine W.widen (k := cells + 40) (n := slots + 2000) (by omega) (by omega) ?_
  exact kk w1 w2 H locs ls ⟨_, _, _, hw1.2, hw2.2⟩ hP hD hS hl
set_option maxHeartbeats 4000000 in
set_option maxRecDepth 100000 in
theorem law_c12 {p : Program} {l : Launch} {e : Env} {s : State} {m : MethodId} {below : List Frame} {meth : Method} {c : Code} {b L : Nat} {xs : Nat → Int32} {dC : Nat → ClassId} {dI : Nat → Nat → Nat} {kA : Nat → ClassId} {aS vS : Nat} {oS : Option Nat} {x0 n0 : Nat} (C0 : lw_At p s m meth c b L xs) (hL : L ≤ 5120) (hK : zK dC dI kA s) (hZ : zStr aS vS oS (fun q : Nat => s.heap.size ≤ q) s s.heap) {i : Int32} (hi : 0 ≤ i.toInt ∧ i.toInt + 10 ≤ L) {cells slots : Nat} (hc : cells + 40 ≤ 600000) (hs : slots + 2000 ≤ 7302249) (kk : ∀ (wx wm : va_W) (H : Heap) (locs : List Loc) (ls : Array Slot), LInv kA x0 n0 wx wm → va_P (dC, dI) vwCl (wx ++ wm) H → va_D (fun q : Nat => s.heap.size ≤ q) (wx ++ wm) → va_S (fun q : Nat => s.heap.size ≤ q) s.heap H locs → lv_has ls 4 [(3, .int i), (2, .ref n0), (1, .ref x0), (0, .ref b)] → W p l e room_1 s m #[Value.ref b] below meth c H locs (cells + 40) (slots + 2000) (lw_Z below #[Value.ref b] s) (F0 m 1730 ls [])) (wx wm : va_W) (H : Heap) (locs : List Loc) (ls : Array Slot) (hI : LInv kA x0 n0 wx wm) (hP : va_P (dC, dI) vwCl (wx ++ wm) H) (hD : va_D (fun q : Nat => s.heap.size ≤ q) (wx ++ wm)) (hS : va_S (fun q : Nat => s.heap.size ≤ q) s.heap H locs) (hl : lv_has ls 4 [(3, .int i), (2, .ref n0), (1, .ref x0), (0, .ref b)]) : W p l e room_1 s m #[Value.ref b] below meth c H locs cells slots (lw_Z below #[Value.ref b] s) (F0 m 628 ls []) := by
  obtain ⟨hx, hb, hr, hml, hown0, hts0, hX, hbl, hlocks, hgv⟩ := C0
  have hown : s.vm.findClass RL = some m.cls := hown0
  have hts : ∀ w ∈ wsL_law, w.before #[Value.ref b] s = true := fun w h => hts0 w (wsL_law_in w h)
  have hA : ∀ q : Nat, s.heap.size ≤ q → (fun q : Nat => s.heap.size ≤ q) q := fun _ h => h
  have hbA : ¬ (fun q : Nat => s.heap.size ≤ q) b := Nat.not_le.mpr hbl
  obtain ⟨S_, LL, im, hX0, hM0⟩ := hI
  have hgd := MOK4_gd hM0
  have hxt := MOK4_xt hM0
  have hgr := MOK4_gr hM0
  have hgx := MOK4_gx hM0
  have hc1 : cells + 20 ≤ room_1.cells := by show cells + 20 ≤ 600000; omega
  have hs1 : slots + 1000 ≤ room_1.slots := by show slots + 1000 ≤ 7302249; omega
  have hc2 : cells + 20 + 20 ≤ room_1.cells := by show cells + 20 + 20 ≤ 600000; omega
  have hs2 : slots + 1000 + 1000 ≤ room_1.slots := by show slots + 1000 + 1000 ≤ 7302249; omega
  obtain ⟨a1, ea1⟩ : ∃ y : Int32, y = xs (i + 1).toNatClampNeg := ⟨_, rfl⟩
  obtain ⟨a2, ea2⟩ : ∃ y : Int32, y = xs (i + 2).toNatClampNeg := ⟨_, rfl⟩
  refine lv_aload_n hx hb dL_law_628 rfl (lv_at hl 2 rfl) ?_
  refine lv_aload_n hx hb dL_law_629 rfl (lv_at hl 3 rfl) ?_
  refine lv_iload_n hx hb dL_law_630 rfl (lv_at hl 0 rfl) ?_
  refine lv_iconst (v := 1) hx hb dL_law_631 (by decide) ?_
  refine lv_iadd hx hb dL_law_632 ?_
  refine va_sld hx hb hX hbl hbA hS (z_sc hi hL (n := 1) (by decide) (by decide)) dL_law_633 ?_
  refine zi a1 ea1.symm ?_
  refine lv_aload_n hx hb dL_law_634 rfl (lv_at hl 3 rfl) ?_
  refine lv_iload_n hx hb dL_law_635 rfl (lv_at hl 0 rfl) ?_
  refine lv_iconst (v := 2) hx hb dL_law_636 (by decide) ?_
  refine lv_iadd hx hb dL_law_637 ?_
  refine va_sld hx hb hX hbl hbA hS (z_sc hi hL (n := 2) (by decide) (by decide)) dL_law_638 ?_
  refine zi a2 ea2.symm ?_
  refine z_iL (wa := wx) (wb := wm) (va_runV (As := [.int a1, .int a2]) (rest := []) ⟨hx, hb, hml, hown, hts⟩ (wX10_tick l dC dI kA _ x0 a1 a2 hX0 hgd hxt) (cwV 2 hts gL_law_X10_tick rfl rfl rfl ⟨rfl, hdX10_tick⟩ ⟨(Nat.le_of_ble_eq_true rfl), (Nat.le_of_ble_eq_true rfl)⟩) ⟨zPc.blind, XOK_rec hK hX0 hP, zPre hK (wl_P hP) (wl_D hD)⟩ rfl rfl hl.1 rfl (lv_room (Nat.le_of_ble_eq_true rfl)) dL_law_639 ⟨hc1, hs1⟩) hP hD hS hA (fun r1 w1 H locs hw1 hP hD hS => ?_)
  refine lv_pop hx hb dL_law_642 rfl ?_
  refine lv_aload_n hx hb dL_law_643 rfl (lv_at hl 1 rfl) ?_
  refine lv_aload_n hx hb dL_law_644 rfl (lv_at hl 3 rfl) ?_
  refine lv_iload_n hx hb dL_law_645 rfl (lv_at hl 0 rfl) ?_
  refine lv_iconst (v := 1) hx hb dL_law_646 (by decide) ?_
  refine lv_iadd hx hb dL_law_647 ?_
  refine va_sld hx hb hX hbl hbA hS (z_sc hi hL (n := 1) (by decide) (by decide)) dL_law_648 ?_
  refine zi a1 ea1.symm ?_
  refine lv_aload_n hx hb dL_law_649 rfl (lv_at hl 3 rfl) ?_
  refine lv_iload_n hx hb dL_law_650 rfl (lv_at hl 0 rfl) ?_
  refine lv_iconst (v := 2) hx hb dL_law_651 (by decide) ?_
  refine lv_iadd hx hb dL_law_652 ?_
  refine va_sld hx hb hX hbl hbA hS (z_sc hi hL (n := 2) (by decide) (by decide)) dL_law_653 ?_
  refine zi a2 ea2.symm ?_
  refine z_iL (wa := wm) (wb := w1) (va_runV (As := [.int a1, .int a2]) (rest := []) ⟨hx, hb, hml, hown, hts⟩ (wX11_tick l dC dI kA _ n0 a1 a2 hM0) (cwV 2 hts gL_law_X11_tick rfl rfl rfl ⟨rfl, hdX11_tick⟩ ⟨(Nat.le_of_ble_eq_true rfl), (Nat.le_of_ble_eq_true rfl)⟩) ⟨zPc.blind, MOK_rec hK hM0 (wp_P hP List.perm_append_comm), zPre hK (wl_P (wp_P hP List.perm_append_comm)) (wl_D (wp_D hD List.perm_append_comm))⟩ rfl rfl hl.1 rfl (lv_room (Nat.le_of_ble_eq_true rfl)) dL_law_654 ⟨hc2, hs2⟩) (wp_P hP List.perm_append_comm) (wp_D hD List.perm_append_comm) hS hA (fun r2 w2 H locs hw2 hP hD hS => ?_)
  have hP := wp_P hP (List.perm_append_comm)
  have hD := wp_D hD (List.perm_append_comm)
  refine lv_pop hx hb dL_law_657 rfl ?_
  refine lv_goto (tgt := 1730) hx hb dL_law_658 (by decide) ?_
  refine W.widen (k := cells + 40) (n := slots + 2000) (by omega) (by omega) ?_
  exact kk w1 w2 H locs ls ⟨_, _, _, hw1.2, hw2.2⟩ hP hD hS hl
set_option maxHeartbeats 4000000 in
set_option maxRecDepth 100000 in
theorem law_c13 {p : Program} {l : Launch} {e : Env} {s : State} {m : MethodId} {below : List Frame} {meth : Method} {c : Code} {b L : Nat} {xs : Nat → Int32} {dC : Nat → ClassId} {dI : Nat → Nat → Nat} {kA : Nat → ClassId} {aS vS : Nat} {oS : Option Nat} {x0 n0 : Nat} (C0 : lw_At p s m meth c b L xs) (hL : L ≤ 5120) (hK : zK dC dI kA s) (hZ : zStr aS vS oS (fun q : Nat => s.heap.size ≤ q) s s.heap) {i : Int32} (hi : 0 ≤ i.toInt ∧ i.toInt + 10 ≤ L) {cells slots : Nat} (hc : cells + 40 ≤ 600000) (hs : slots + 2000 ≤ 7302249) (kk : ∀ (wx wm : va_W) (H : Heap) (locs : List Loc) (ls : Array Slot), LInv kA x0 n0 wx wm → va_P (dC, dI) vwCl (wx ++ wm) H → va_D (fun q : Nat => s.heap.size ≤ q) (wx ++ wm) → va_S (fun q : Nat => s.heap.size ≤ q) s.heap H locs → lv_has ls 4 [(3, .int i), (2, .ref n0), (1, .ref x0), (0, .ref b)] → W p l e room_1 s m #[Value.ref b] below meth c H locs (cells + 40) (slots + 2000) (lw_Z below #[Value.ref b] s) (F0 m 1730 ls [])) (wx wm : va_W) (H : Heap) (locs : List Loc) (ls : Array Slot) (hI : LInv kA x0 n0 wx wm) (hP : va_P (dC, dI) vwCl (wx ++ wm) H) (hD : va_D (fun q : Nat => s.heap.size ≤ q) (wx ++ wm)) (hS : va_S (fun q : Nat => s.heap.size ≤ q) s.heap H locs) (hl : lv_has ls 4 [(3, .int i), (2, .ref n0), (1, .ref x0), (0, .ref b)]) : W p l e room_1 s m #[Value.ref b] below meth c H locs cells slots (lw_Z below #[Value.ref b] s) (F0 m 661 ls []) := by
  obtain ⟨hx, hb, hr, hml, hown0, hts0, hX, hbl, hlocks, hgv⟩ := C0
  have hown : s.vm.findClass RL = some m.cls := hown0
  have hts : ∀ w ∈ wsL_law, w.before #[Value.ref b] s = true := fun w h => hts0 w (wsL_law_in w h)
  have hA : ∀ q : Nat, s.heap.size ≤ q → (fun q : Nat => s.heap.size ≤ q) q := fun _ h => h
  have hbA : ¬ (fun q : Nat => s.heap.size ≤ q) b := Nat.not_le.mpr hbl
  obtain ⟨S_, LL, im, hX0, hM0⟩ := hI
  have hgd := MOK4_gd hM0
  have hxt := MOK4_xt hM0
  have hgr := MOK4_gr hM0
  have hgx := MOK4_gx hM0
  have hc1 : cells + 20 ≤ room_1.cells := by show cells + 20 ≤ 600000; omega
  have hs1 : slots + 1000 ≤ room_1.slots := by show slots + 1000 ≤ 7302249; omega
  have hc2 : cells + 20 + 20 ≤ room_1.cells := by show cells + 20 + 20 ≤ 600000; omega
  have hs2 : slots + 1000 + 1000 ≤ room_1.slots := by show slots + 1000 + 1000 ≤ 7302249; omega
  obtain ⟨a1, ea1⟩ : ∃ y : Int32, y = xs (i + 1).toNatClampNeg := ⟨_, rfl⟩
  obtain ⟨a2, ea2⟩ : ∃ y : Int32, y = xs (i + 2).toNatClampNeg := ⟨_, rfl⟩
  refine lv_aload_n hx hb dL_law_661 rfl (lv_at hl 2 rfl) ?_
  refine lv_aload_n hx hb dL_law_662 rfl (lv_at hl 3 rfl) ?_
  refine lv_iload_n hx hb dL_law_663 rfl (lv_at hl 0 rfl) ?_
  refine lv_iconst (v := 1) hx hb dL_law_664 (by decide) ?_
  refine lv_iadd hx hb dL_law_665 ?_
  refine va_sld hx hb hX hbl hbA hS (z_sc hi hL (n := 1) (by decide) (by decide)) dL_law_666 ?_
  refine zi a1 ea1.symm ?_
  refine lv_aload_n hx hb dL_law_667 rfl (lv_at hl 3 rfl) ?_
  refine lv_iload_n hx hb dL_law_668 rfl (lv_at hl 0 rfl) ?_
  refine lv_iconst (v := 2) hx hb dL_law_669 (by decide) ?_
  refine lv_iadd hx hb dL_law_670 ?_
  refine va_sld hx hb hX hbl hbA hS (z_sc hi hL (n := 2) (by decide) (by decide)) dL_law_671 ?_
  refine zi a2 ea2.symm ?_
  refine z_iL (wa := wx) (wb := wm) (va_runV (As := [.int a1, .int a2]) (rest := []) ⟨hx, hb, hml, hown, hts⟩ (wX10_at l dC dI kA _ x0 a1 a2 hX0 hgd hxt) (cwV 2 hts gL_law_X10_at rfl rfl rfl ⟨rfl, hdX10_at⟩ ⟨(Nat.le_of_ble_eq_true rfl), (Nat.le_of_ble_eq_true rfl)⟩) ⟨zPc.blind, XOK_rec hK hX0 hP, zPre hK (wl_P hP) (wl_D hD)⟩ rfl rfl hl.1 rfl (lv_room (Nat.le_of_ble_eq_true rfl)) dL_law_672 ⟨hc1, hs1⟩) hP hD hS hA (fun r1 w1 H locs hw1 hP hD hS => ?_)
  refine lv_pop hx hb dL_law_675 rfl ?_
  refine lv_aload_n hx hb dL_law_676 rfl (lv_at hl 1 rfl) ?_
  refine lv_aload_n hx hb dL_law_677 rfl (lv_at hl 3 rfl) ?_
  refine lv_iload_n hx hb dL_law_678 rfl (lv_at hl 0 rfl) ?_
  refine lv_iconst (v := 1) hx hb dL_law_679 (by decide) ?_
  refine lv_iadd hx hb dL_law_680 ?_
  refine va_sld hx hb hX hbl hbA hS (z_sc hi hL (n := 1) (by decide) (by decide)) dL_law_681 ?_
  refine zi a1 ea1.symm ?_
  refine lv_aload_n hx hb dL_law_682 rfl (lv_at hl 3 rfl) ?_
  refine lv_iload_n hx hb dL_law_683 rfl (lv_at hl 0 rfl) ?_
  refine lv_iconst (v := 2) hx hb dL_law_684 (by decide) ?_
  refine lv_iadd hx hb dL_law_685 ?_
  refine va_sld hx hb hX hbl hbA hS (z_sc hi hL (n := 2) (by decide) (by decide)) dL_law_686 ?_
  refine zi a2 ea2.symm ?_
  refine z_iL (wa := wm) (wb := w1) (va_runV (As := [.int a1, .int a2]) (rest := []) ⟨hx, hb, hml, hown, hts⟩ (wX11_at l dC dI kA _ n0 a1 a2 hM0) (cwV 2 hts gL_law_X11_at rfl rfl rfl ⟨rfl, hdX11_at⟩ ⟨(Nat.le_of_ble_eq_true rfl), (Nat.le_of_ble_eq_true rfl)⟩) ⟨zPc.blind, MOK_rec hK hM0 (wp_P hP List.perm_append_comm), zPre hK (wl_P (wp_P hP List.perm_append_comm)) (wl_D (wp_D hD List.perm_append_comm))⟩ rfl rfl hl.1 rfl (lv_room (Nat.le_of_ble_eq_true rfl)) dL_law_687 ⟨hc2, hs2⟩) (wp_P hP List.perm_append_comm) (wp_D hD List.perm_append_comm) hS hA (fun r2 w2 H locs hw2 hP hD hS => ?_)
  have hP := wp_P hP (List.perm_append_comm)
  have hD := wp_D hD (List.perm_append_comm)
  refine lv_pop hx hb dL_law_690 rfl ?_
  refine lv_goto (tgt := 1730) hx hb dL_law_691 (by decide) ?_
  refine W.widen (k := cells + 40) (n := slots + 2000) (by omega) (by omega) ?_
  exact kk w1 w2 H locs ls ⟨_, _, _, hw1.2, hw2.2⟩ hP hD hS hl
set_option maxHeartbeats 4000000 in
set_option maxRecDepth 100000 in
theorem law_c14 {p : Program} {l : Launch} {e : Env} {s : State} {m : MethodId} {below : List Frame} {meth : Method} {c : Code} {b L : Nat} {xs : Nat → Int32} {dC : Nat → ClassId} {dI : Nat → Nat → Nat} {kA : Nat → ClassId} {aS vS : Nat} {oS : Option Nat} {x0 n0 : Nat} (C0 : lw_At p s m meth c b L xs) (hL : L ≤ 5120) (hK : zK dC dI kA s) (hZ : zStr aS vS oS (fun q : Nat => s.heap.size ≤ q) s s.heap) {i : Int32} (hi : 0 ≤ i.toInt ∧ i.toInt + 10 ≤ L) {cells slots : Nat} (hc : cells + 40 ≤ 600000) (hs : slots + 2000 ≤ 7302249) (kk : ∀ (wx wm : va_W) (H : Heap) (locs : List Loc) (ls : Array Slot), LInv kA x0 n0 wx wm → va_P (dC, dI) vwCl (wx ++ wm) H → va_D (fun q : Nat => s.heap.size ≤ q) (wx ++ wm) → va_S (fun q : Nat => s.heap.size ≤ q) s.heap H locs → lv_has ls 4 [(3, .int i), (2, .ref n0), (1, .ref x0), (0, .ref b)] → W p l e room_1 s m #[Value.ref b] below meth c H locs (cells + 40) (slots + 2000) (lw_Z below #[Value.ref b] s) (F0 m 1730 ls [])) (wx wm : va_W) (H : Heap) (locs : List Loc) (ls : Array Slot) (hI : LInv kA x0 n0 wx wm) (hP : va_P (dC, dI) vwCl (wx ++ wm) H) (hD : va_D (fun q : Nat => s.heap.size ≤ q) (wx ++ wm)) (hS : va_S (fun q : Nat => s.heap.size ≤ q) s.heap H locs) (hl : lv_has ls 4 [(3, .int i), (2, .ref n0), (1, .ref x0), (0, .ref b)]) : W p l e room_1 s m #[Value.ref b] below meth c H locs cells slots (lw_Z below #[Value.ref b] s) (F0 m 694 ls []) := by
  obtain ⟨hx, hb, hr, hml, hown0, hts0, hX, hbl, hlocks, hgv⟩ := C0
  have hown : s.vm.findClass RL = some m.cls := hown0
  have hts : ∀ w ∈ wsL_law, w.before #[Value.ref b] s = true := fun w h => hts0 w (wsL_law_in w h)
  have hA : ∀ q : Nat, s.heap.size ≤ q → (fun q : Nat => s.heap.size ≤ q) q := fun _ h => h
  have hbA : ¬ (fun q : Nat => s.heap.size ≤ q) b := Nat.not_le.mpr hbl
  obtain ⟨S_, LL, im, hX0, hM0⟩ := hI
  have hgd := MOK4_gd hM0
  have hxt := MOK4_xt hM0
  have hgr := MOK4_gr hM0
  have hgx := MOK4_gx hM0
  have hc1 : cells + 20 ≤ room_1.cells := by show cells + 20 ≤ 600000; omega
  have hs1 : slots + 1000 ≤ room_1.slots := by show slots + 1000 ≤ 7302249; omega
  have hc2 : cells + 20 + 20 ≤ room_1.cells := by show cells + 20 + 20 ≤ 600000; omega
  have hs2 : slots + 1000 + 1000 ≤ room_1.slots := by show slots + 1000 + 1000 ≤ 7302249; omega
  obtain ⟨a1, ea1⟩ : ∃ y : Int32, y = xs (i + 1).toNatClampNeg := ⟨_, rfl⟩
  obtain ⟨a2, ea2⟩ : ∃ y : Int32, y = xs (i + 2).toNatClampNeg := ⟨_, rfl⟩
  refine lv_aload_n hx hb dL_law_694 rfl (lv_at hl 2 rfl) ?_
  refine lv_aload_n hx hb dL_law_695 rfl (lv_at hl 3 rfl) ?_
  refine lv_iload_n hx hb dL_law_696 rfl (lv_at hl 0 rfl) ?_
  refine lv_iconst (v := 1) hx hb dL_law_697 (by decide) ?_
  refine lv_iadd hx hb dL_law_698 ?_
  refine va_sld hx hb hX hbl hbA hS (z_sc hi hL (n := 1) (by decide) (by decide)) dL_law_699 ?_
  refine zi a1 ea1.symm ?_
  refine lv_aload_n hx hb dL_law_700 rfl (lv_at hl 3 rfl) ?_
  refine lv_iload_n hx hb dL_law_701 rfl (lv_at hl 0 rfl) ?_
  refine lv_iconst (v := 2) hx hb dL_law_702 (by decide) ?_
  refine lv_iadd hx hb dL_law_703 ?_
  refine va_sld hx hb hX hbl hbA hS (z_sc hi hL (n := 2) (by decide) (by decide)) dL_law_704 ?_
  refine zi a2 ea2.symm ?_
  refine z_iL (wa := wx) (wb := wm) (va_runV (As := [.int a1, .int a2]) (rest := []) ⟨hx, hb, hml, hown, hts⟩ (wX10_of l dC dI kA _ x0 a1 a2 hX0 hgd hxt) (cwV 2 hts gL_law_X10_of rfl rfl rfl ⟨rfl, hdX10_of⟩ ⟨(Nat.le_of_ble_eq_true rfl), (Nat.le_of_ble_eq_true rfl)⟩) ⟨zPc.blind, XOK_rec hK hX0 hP, zPre hK (wl_P hP) (wl_D hD)⟩ rfl rfl hl.1 rfl (lv_room (Nat.le_of_ble_eq_true rfl)) dL_law_705 ⟨hc1, hs1⟩) hP hD hS hA (fun r1 w1 H locs hw1 hP hD hS => ?_)
  refine lv_pop hx hb dL_law_708 rfl ?_
  refine lv_aload_n hx hb dL_law_709 rfl (lv_at hl 1 rfl) ?_
  refine lv_aload_n hx hb dL_law_710 rfl (lv_at hl 3 rfl) ?_
  refine lv_iload_n hx hb dL_law_711 rfl (lv_at hl 0 rfl) ?_
  refine lv_iconst (v := 1) hx hb dL_law_712 (by decide) ?_
  refine lv_iadd hx hb dL_law_713 ?_
  refine va_sld hx hb hX hbl hbA hS (z_sc hi hL (n := 1) (by decide) (by decide)) dL_law_714 ?_
  refine zi a1 ea1.symm ?_
  refine lv_aload_n hx hb dL_law_715 rfl (lv_at hl 3 rfl) ?_
  refine lv_iload_n hx hb dL_law_716 rfl (lv_at hl 0 rfl) ?_
  refine lv_iconst (v := 2) hx hb dL_law_717 (by decide) ?_
  refine lv_iadd hx hb dL_law_718 ?_
  refine va_sld hx hb hX hbl hbA hS (z_sc hi hL (n := 2) (by decide) (by decide)) dL_law_719 ?_
  refine zi a2 ea2.symm ?_
  refine z_iL (wa := wm) (wb := w1) (va_runV (As := [.int a1, .int a2]) (rest := []) ⟨hx, hb, hml, hown, hts⟩ (wX11_of l dC dI kA _ n0 a1 a2 hM0) (cwV 2 hts gL_law_X11_of rfl rfl rfl ⟨rfl, hdX11_of⟩ ⟨(Nat.le_of_ble_eq_true rfl), (Nat.le_of_ble_eq_true rfl)⟩) ⟨zPc.blind, MOK_rec hK hM0 (wp_P hP List.perm_append_comm), zPre hK (wl_P (wp_P hP List.perm_append_comm)) (wl_D (wp_D hD List.perm_append_comm))⟩ rfl rfl hl.1 rfl (lv_room (Nat.le_of_ble_eq_true rfl)) dL_law_720 ⟨hc2, hs2⟩) (wp_P hP List.perm_append_comm) (wp_D hD List.perm_append_comm) hS hA (fun r2 w2 H locs hw2 hP hD hS => ?_)
  have hP := wp_P hP (List.perm_append_comm)
  have hD := wp_D hD (List.perm_append_comm)
  refine lv_pop hx hb dL_law_723 rfl ?_
  refine lv_goto (tgt := 1730) hx hb dL_law_724 (by decide) ?_
  refine W.widen (k := cells + 40) (n := slots + 2000) (by omega) (by omega) ?_
  exact kk w1 w2 H locs ls ⟨_, _, _, hw1.2, hw2.2⟩ hP hD hS hl
set_option maxHeartbeats 4000000 in
set_option maxRecDepth 100000 in
theorem law_c15 {p : Program} {l : Launch} {e : Env} {s : State} {m : MethodId} {below : List Frame} {meth : Method} {c : Code} {b L : Nat} {xs : Nat → Int32} {dC : Nat → ClassId} {dI : Nat → Nat → Nat} {kA : Nat → ClassId} {aS vS : Nat} {oS : Option Nat} {x0 n0 : Nat} (C0 : lw_At p s m meth c b L xs) (hL : L ≤ 5120) (hK : zK dC dI kA s) (hZ : zStr aS vS oS (fun q : Nat => s.heap.size ≤ q) s s.heap) {i : Int32} (hi : 0 ≤ i.toInt ∧ i.toInt + 10 ≤ L) {cells slots : Nat} (hc : cells + 40 ≤ 600000) (hs : slots + 2000 ≤ 7302249) (kk : ∀ (wx wm : va_W) (H : Heap) (locs : List Loc) (ls : Array Slot), LInv kA x0 n0 wx wm → va_P (dC, dI) vwCl (wx ++ wm) H → va_D (fun q : Nat => s.heap.size ≤ q) (wx ++ wm) → va_S (fun q : Nat => s.heap.size ≤ q) s.heap H locs → lv_has ls 4 [(3, .int i), (2, .ref n0), (1, .ref x0), (0, .ref b)] → W p l e room_1 s m #[Value.ref b] below meth c H locs (cells + 40) (slots + 2000) (lw_Z below #[Value.ref b] s) (F0 m 1730 ls [])) (wx wm : va_W) (H : Heap) (locs : List Loc) (ls : Array Slot) (hI : LInv kA x0 n0 wx wm) (hP : va_P (dC, dI) vwCl (wx ++ wm) H) (hD : va_D (fun q : Nat => s.heap.size ≤ q) (wx ++ wm)) (hS : va_S (fun q : Nat => s.heap.size ≤ q) s.heap H locs) (hl : lv_has ls 4 [(3, .int i), (2, .ref n0), (1, .ref x0), (0, .ref b)]) : W p l e room_1 s m #[Value.ref b] below meth c H locs cells slots (lw_Z below #[Value.ref b] s) (F0 m 727 ls []) := by
  obtain ⟨hx, hb, hr, hml, hown0, hts0, hX, hbl, hlocks, hgv⟩ := C0
  have hown : s.vm.findClass RL = some m.cls := hown0
  have hts : ∀ w ∈ wsL_law, w.before #[Value.ref b] s = true := fun w h => hts0 w (wsL_law_in w h)
  have hA : ∀ q : Nat, s.heap.size ≤ q → (fun q : Nat => s.heap.size ≤ q) q := fun _ h => h
  have hbA : ¬ (fun q : Nat => s.heap.size ≤ q) b := Nat.not_le.mpr hbl
  obtain ⟨S_, LL, im, hX0, hM0⟩ := hI
  have hgd := MOK4_gd hM0
  have hxt := MOK4_xt hM0
  have hgr := MOK4_gr hM0
  have hgx := MOK4_gx hM0
  have hc1 : cells + 20 ≤ room_1.cells := by show cells + 20 ≤ 600000; omega
  have hs1 : slots + 1000 ≤ room_1.slots := by show slots + 1000 ≤ 7302249; omega
  have hc2 : cells + 20 + 20 ≤ room_1.cells := by show cells + 20 + 20 ≤ 600000; omega
  have hs2 : slots + 1000 + 1000 ≤ room_1.slots := by show slots + 1000 + 1000 ≤ 7302249; omega
  obtain ⟨a1, ea1⟩ : ∃ y : Int32, y = xs (i + 1).toNatClampNeg := ⟨_, rfl⟩
  obtain ⟨a2, ea2⟩ : ∃ y : Int32, y = xs (i + 2).toNatClampNeg := ⟨_, rfl⟩
  refine lv_aload_n hx hb dL_law_727 rfl (lv_at hl 2 rfl) ?_
  refine lv_aload_n hx hb dL_law_728 rfl (lv_at hl 3 rfl) ?_
  refine lv_iload_n hx hb dL_law_729 rfl (lv_at hl 0 rfl) ?_
  refine lv_iconst (v := 1) hx hb dL_law_730 (by decide) ?_
  refine lv_iadd hx hb dL_law_731 ?_
  refine va_sld hx hb hX hbl hbA hS (z_sc hi hL (n := 1) (by decide) (by decide)) dL_law_732 ?_
  refine zi a1 ea1.symm ?_
  refine lv_aload_n hx hb dL_law_733 rfl (lv_at hl 3 rfl) ?_
  refine lv_iload_n hx hb dL_law_734 rfl (lv_at hl 0 rfl) ?_
  refine lv_iconst (v := 2) hx hb dL_law_735 (by decide) ?_
  refine lv_iadd hx hb dL_law_736 ?_
  refine va_sld hx hb hX hbl hbA hS (z_sc hi hL (n := 2) (by decide) (by decide)) dL_law_737 ?_
  refine zi a2 ea2.symm ?_
  refine z_iL (wa := wx) (wb := wm) (va_runV (As := [.int a1, .int a2]) (rest := []) ⟨hx, hb, hml, hown, hts⟩ (wX10_melt l dC dI kA _ x0 a1 a2 hX0 hgd hxt) (cwV 2 hts gL_law_X10_melt rfl rfl rfl ⟨rfl, hdX10_melt⟩ ⟨(Nat.le_of_ble_eq_true rfl), (Nat.le_of_ble_eq_true rfl)⟩) ⟨zPc.blind, XOK_rec hK hX0 hP, zPre hK (wl_P hP) (wl_D hD)⟩ rfl rfl hl.1 rfl (lv_room (Nat.le_of_ble_eq_true rfl)) dL_law_738 ⟨hc1, hs1⟩) hP hD hS hA (fun r1 w1 H locs hw1 hP hD hS => ?_)
  refine lv_pop hx hb dL_law_741 rfl ?_
  refine lv_aload_n hx hb dL_law_742 rfl (lv_at hl 1 rfl) ?_
  refine lv_aload_n hx hb dL_law_743 rfl (lv_at hl 3 rfl) ?_
  refine lv_iload_n hx hb dL_law_744 rfl (lv_at hl 0 rfl) ?_
  refine lv_iconst (v := 1) hx hb dL_law_745 (by decide) ?_
  refine lv_iadd hx hb dL_law_746 ?_
  refine va_sld hx hb hX hbl hbA hS (z_sc hi hL (n := 1) (by decide) (by decide)) dL_law_747 ?_
  refine zi a1 ea1.symm ?_
  refine lv_aload_n hx hb dL_law_748 rfl (lv_at hl 3 rfl) ?_
  refine lv_iload_n hx hb dL_law_749 rfl (lv_at hl 0 rfl) ?_
  refine lv_iconst (v := 2) hx hb dL_law_750 (by decide) ?_
  refine lv_iadd hx hb dL_law_751 ?_
  refine va_sld hx hb hX hbl hbA hS (z_sc hi hL (n := 2) (by decide) (by decide)) dL_law_752 ?_
  refine zi a2 ea2.symm ?_
  refine z_iL (wa := wm) (wb := w1) (va_runV (As := [.int a1, .int a2]) (rest := []) ⟨hx, hb, hml, hown, hts⟩ (wX11_melt l dC dI kA _ n0 a1 a2 hM0) (cwV 2 hts gL_law_X11_melt rfl rfl rfl ⟨rfl, hdX11_melt⟩ ⟨(Nat.le_of_ble_eq_true rfl), (Nat.le_of_ble_eq_true rfl)⟩) ⟨zPc.blind, MOK_rec hK hM0 (wp_P hP List.perm_append_comm), zPre hK (wl_P (wp_P hP List.perm_append_comm)) (wl_D (wp_D hD List.perm_append_comm))⟩ rfl rfl hl.1 rfl (lv_room (Nat.le_of_ble_eq_true rfl)) dL_law_753 ⟨hc2, hs2⟩) (wp_P hP List.perm_append_comm) (wp_D hD List.perm_append_comm) hS hA (fun r2 w2 H locs hw2 hP hD hS => ?_)
  have hP := wp_P hP (List.perm_append_comm)
  have hD := wp_D hD (List.perm_append_comm)
  refine lv_pop hx hb dL_law_756 rfl ?_
  refine lv_goto (tgt := 1730) hx hb dL_law_757 (by decide) ?_
  refine W.widen (k := cells + 40) (n := slots + 2000) (by omega) (by omega) ?_
  exact kk w1 w2 H locs ls ⟨_, _, _, hw1.2, hw2.2⟩ hP hD hS hl
set_option maxHeartbeats 4000000 in
set_option maxRecDepth 100000 in
theorem law_c16 {p : Program} {l : Launch} {e : Env} {s : State} {m : MethodId} {below : List Frame} {meth : Method} {c : Code} {b L : Nat} {xs : Nat → Int32} {dC : Nat → ClassId} {dI : Nat → Nat → Nat} {kA : Nat → ClassId} {aS vS : Nat} {oS : Option Nat} {x0 n0 : Nat} (C0 : lw_At p s m meth c b L xs) (hL : L ≤ 5120) (hK : zK dC dI kA s) (hZ : zStr aS vS oS (fun q : Nat => s.heap.size ≤ q) s s.heap) {i : Int32} (hi : 0 ≤ i.toInt ∧ i.toInt + 10 ≤ L) {cells slots : Nat} (hc : cells + 40 ≤ 600000) (hs : slots + 2000 ≤ 7302249) (kk : ∀ (wx wm : va_W) (H : Heap) (locs : List Loc) (ls : Array Slot), LInv kA x0 n0 wx wm → va_P (dC, dI) vwCl (wx ++ wm) H → va_D (fun q : Nat => s.heap.size ≤ q) (wx ++ wm) → va_S (fun q : Nat => s.heap.size ≤ q) s.heap H locs → lv_has ls 4 [(3, .int i), (2, .ref n0), (1, .ref x0), (0, .ref b)] → W p l e room_1 s m #[Value.ref b] below meth c H locs (cells + 40) (slots + 2000) (lw_Z below #[Value.ref b] s) (F0 m 1730 ls [])) (wx wm : va_W) (H : Heap) (locs : List Loc) (ls : Array Slot) (hI : LInv kA x0 n0 wx wm) (hP : va_P (dC, dI) vwCl (wx ++ wm) H) (hD : va_D (fun q : Nat => s.heap.size ≤ q) (wx ++ wm)) (hS : va_S (fun q : Nat => s.heap.size ≤ q) s.heap H locs) (hl : lv_has ls 4 [(3, .int i), (2, .ref n0), (1, .ref x0), (0, .ref b)]) : W p l e room_1 s m #[Value.ref b] below meth c H locs cells slots (lw_Z below #[Value.ref b] s) (F0 m 760 ls []) := by
  obtain ⟨hx, hb, hr, hml, hown0, hts0, hX, hbl, hlocks, hgv⟩ := C0
  have hown : s.vm.findClass RL = some m.cls := hown0
  have hts : ∀ w ∈ wsL_law, w.before #[Value.ref b] s = true := fun w h => hts0 w (wsL_law_in w h)
  have hA : ∀ q : Nat, s.heap.size ≤ q → (fun q : Nat => s.heap.size ≤ q) q := fun _ h => h
  have hbA : ¬ (fun q : Nat => s.heap.size ≤ q) b := Nat.not_le.mpr hbl
  obtain ⟨S_, LL, im, hX0, hM0⟩ := hI
  have hgd := MOK4_gd hM0
  have hxt := MOK4_xt hM0
  have hgr := MOK4_gr hM0
  have hgx := MOK4_gx hM0
  have hc1 : cells + 20 ≤ room_1.cells := by show cells + 20 ≤ 600000; omega
  have hs1 : slots + 1000 ≤ room_1.slots := by show slots + 1000 ≤ 7302249; omega
  have hc2 : cells + 20 + 20 ≤ room_1.cells := by show cells + 20 + 20 ≤ 600000; omega
  have hs2 : slots + 1000 + 1000 ≤ room_1.slots := by show slots + 1000 + 1000 ≤ 7302249; omega
  obtain ⟨a1, ea1⟩ : ∃ y : Int32, y = xs (i + 1).toNatClampNeg := ⟨_, rfl⟩
  refine lv_aload_n hx hb dL_law_760 rfl (lv_at hl 2 rfl) ?_
  refine lv_aload_n hx hb dL_law_761 rfl (lv_at hl 3 rfl) ?_
  refine lv_iload_n hx hb dL_law_762 rfl (lv_at hl 0 rfl) ?_
  refine lv_iconst (v := 1) hx hb dL_law_763 (by decide) ?_
  refine lv_iadd hx hb dL_law_764 ?_
  refine va_sld hx hb hX hbl hbA hS (z_sc hi hL (n := 1) (by decide) (by decide)) dL_law_765 ?_
  refine zi a1 ea1.symm ?_
  refine z_iL (wa := wx) (wb := wm) (va_runV (As := [.int a1]) (rest := []) ⟨hx, hb, hml, hown, hts⟩ (wX10_lay l dC dI kA _ x0 a1 hX0 hgd hxt) (cwV 1 hts gL_law_X10_lay rfl rfl rfl ⟨rfl, hdX10_lay⟩ ⟨(Nat.le_of_ble_eq_true rfl), (Nat.le_of_ble_eq_true rfl)⟩) ⟨zPc.blind, XOK_rec hK hX0 hP, zPre hK (wl_P hP) (wl_D hD)⟩ rfl rfl hl.1 rfl (lv_room (Nat.le_of_ble_eq_true rfl)) dL_law_766 ⟨hc1, hs1⟩) hP hD hS hA (fun r1 w1 H locs hw1 hP hD hS => ?_)
  refine lv_pop hx hb dL_law_769 rfl ?_
  refine lv_aload_n hx hb dL_law_770 rfl (lv_at hl 1 rfl) ?_
  refine lv_aload_n hx hb dL_law_771 rfl (lv_at hl 3 rfl) ?_
  refine lv_iload_n hx hb dL_law_772 rfl (lv_at hl 0 rfl) ?_
  refine lv_iconst (v := 1) hx hb dL_law_773 (by decide) ?_
  refine lv_iadd hx hb dL_law_774 ?_
  refine va_sld hx hb hX hbl hbA hS (z_sc hi hL (n := 1) (by decide) (by decide)) dL_law_775 ?_
  refine zi a1 ea1.symm ?_
  refine z_iL (wa := wm) (wb := w1) (va_runV (As := [.int a1]) (rest := []) ⟨hx, hb, hml, hown, hts⟩ (wX11_lay l dC dI kA _ n0 a1 hM0) (cwV 1 hts gL_law_X11_lay rfl rfl rfl ⟨rfl, hdX11_lay⟩ ⟨(Nat.le_of_ble_eq_true rfl), (Nat.le_of_ble_eq_true rfl)⟩) ⟨zPc.blind, MOK_rec hK hM0 (wp_P hP List.perm_append_comm), zPre hK (wl_P (wp_P hP List.perm_append_comm)) (wl_D (wp_D hD List.perm_append_comm))⟩ rfl rfl hl.1 rfl (lv_room (Nat.le_of_ble_eq_true rfl)) dL_law_776 ⟨hc2, hs2⟩) (wp_P hP List.perm_append_comm) (wp_D hD List.perm_append_comm) hS hA (fun r2 w2 H locs hw2 hP hD hS => ?_)
  have hP := wp_P hP (List.perm_append_comm)
  have hD := wp_D hD (List.perm_append_comm)
  refine lv_pop hx hb dL_law_779 rfl ?_
  refine lv_goto (tgt := 1730) hx hb dL_law_780 (by decide) ?_
  refine W.widen (k := cells + 40) (n := slots + 2000) (by omega) (by omega) ?_
  exact kk w1 w2 H locs ls ⟨_, _, _, hw1.2, hw2.2⟩ hP hD hS hl
set_option maxHeartbeats 4000000 in
set_option maxRecDepth 100000 in
theorem law_c17 {p : Program} {l : Launch} {e : Env} {s : State} {m : MethodId} {below : List Frame} {meth : Method} {c : Code} {b L : Nat} {xs : Nat → Int32} {dC : Nat → ClassId} {dI : Nat → Nat → Nat} {kA : Nat → ClassId} {aS vS : Nat} {oS : Option Nat} {x0 n0 : Nat} (C0 : lw_At p s m meth c b L xs) (hL : L ≤ 5120) (hK : zK dC dI kA s) (hZ : zStr aS vS oS (fun q : Nat => s.heap.size ≤ q) s s.heap) {i : Int32} (hi : 0 ≤ i.toInt ∧ i.toInt + 10 ≤ L) {cells slots : Nat} (hc : cells + 40 ≤ 600000) (hs : slots + 2000 ≤ 7302249) (kk : ∀ (wx wm : va_W) (H : Heap) (locs : List Loc) (ls : Array Slot), LInv kA x0 n0 wx wm → va_P (dC, dI) vwCl (wx ++ wm) H → va_D (fun q : Nat => s.heap.size ≤ q) (wx ++ wm) → va_S (fun q : Nat => s.heap.size ≤ q) s.heap H locs → lv_has ls 4 [(3, .int i), (2, .ref n0), (1, .ref x0), (0, .ref b)] → W p l e room_1 s m #[Value.ref b] below meth c H locs (cells + 40) (slots + 2000) (lw_Z below #[Value.ref b] s) (F0 m 1730 ls [])) (wx wm : va_W) (H : Heap) (locs : List Loc) (ls : Array Slot) (hI : LInv kA x0 n0 wx wm) (hP : va_P (dC, dI) vwCl (wx ++ wm) H) (hD : va_D (fun q : Nat => s.heap.size ≤ q) (wx ++ wm)) (hS : va_S (fun q : Nat => s.heap.size ≤ q) s.heap H locs) (hl : lv_has ls 4 [(3, .int i), (2, .ref n0), (1, .ref x0), (0, .ref b)]) : W p l e room_1 s m #[Value.ref b] below meth c H locs cells slots (lw_Z below #[Value.ref b] s) (F0 m 783 ls []) := by
  obtain ⟨hx, hb, hr, hml, hown0, hts0, hX, hbl, hlocks, hgv⟩ := C0
  have hown : s.vm.findClass RL = some m.cls := hown0
  have hts : ∀ w ∈ wsL_law, w.before #[Value.ref b] s = true := fun w h => hts0 w (wsL_law_in w h)
  have hA : ∀ q : Nat, s.heap.size ≤ q → (fun q : Nat => s.heap.size ≤ q) q := fun _ h => h
  have hbA : ¬ (fun q : Nat => s.heap.size ≤ q) b := Nat.not_le.mpr hbl
  obtain ⟨S_, LL, im, hX0, hM0⟩ := hI
  have hgd := MOK4_gd hM0
  have hxt := MOK4_xt hM0
  have hgr := MOK4_gr hM0
  have hgx := MOK4_gx hM0
  have hc1 : cells + 20 ≤ room_1.cells := by show cells + 20 ≤ 600000; omega
  have hs1 : slots + 1000 ≤ room_1.slots := by show slots + 1000 ≤ 7302249; omega
  have hc2 : cells + 20 + 20 ≤ room_1.cells := by show cells + 20 + 20 ≤ 600000; omega
  have hs2 : slots + 1000 + 1000 ≤ room_1.slots := by show slots + 1000 + 1000 ≤ 7302249; omega
  obtain ⟨a1, ea1⟩ : ∃ y : Int32, y = xs (i + 1).toNatClampNeg := ⟨_, rfl⟩
  refine lv_aload_n hx hb dL_law_783 rfl (lv_at hl 2 rfl) ?_
  refine lv_aload_n hx hb dL_law_784 rfl (lv_at hl 3 rfl) ?_
  refine lv_iload_n hx hb dL_law_785 rfl (lv_at hl 0 rfl) ?_
  refine lv_iconst (v := 1) hx hb dL_law_786 (by decide) ?_
  refine lv_iadd hx hb dL_law_787 ?_
  refine va_sld hx hb hX hbl hbA hS (z_sc hi hL (n := 1) (by decide) (by decide)) dL_law_788 ?_
  refine zi a1 ea1.symm ?_
  refine z_iL (wa := wx) (wb := wm) (va_runV (As := [.int a1]) (rest := []) ⟨hx, hb, hml, hown, hts⟩ (wX10_from l dC dI kA _ x0 a1 hX0 hgd hxt) (cwV 1 hts gL_law_X10_from rfl rfl rfl ⟨rfl, hdX10_from⟩ ⟨(Nat.le_of_ble_eq_true rfl), (Nat.le_of_ble_eq_true rfl)⟩) ⟨zPc.blind, XOK_rec hK hX0 hP, zPre hK (wl_P hP) (wl_D hD)⟩ rfl rfl hl.1 rfl (lv_room (Nat.le_of_ble_eq_true rfl)) dL_law_789 ⟨hc1, hs1⟩) hP hD hS hA (fun r1 w1 H locs hw1 hP hD hS => ?_)
  refine lv_pop hx hb dL_law_792 rfl ?_
  refine lv_aload_n hx hb dL_law_793 rfl (lv_at hl 1 rfl) ?_
  refine lv_aload_n hx hb dL_law_794 rfl (lv_at hl 3 rfl) ?_
  refine lv_iload_n hx hb dL_law_795 rfl (lv_at hl 0 rfl) ?_
  refine lv_iconst (v := 1) hx hb dL_law_796 (by decide) ?_
  refine lv_iadd hx hb dL_law_797 ?_
  refine va_sld hx hb hX hbl hbA hS (z_sc hi hL (n := 1) (by decide) (by decide)) dL_law_798 ?_
  refine zi a1 ea1.symm ?_
  refine z_iL (wa := wm) (wb := w1) (va_runV (As := [.int a1]) (rest := []) ⟨hx, hb, hml, hown, hts⟩ (wX11_from l dC dI kA _ n0 a1 hM0) (cwV 1 hts gL_law_X11_from rfl rfl rfl ⟨rfl, hdX11_from⟩ ⟨(Nat.le_of_ble_eq_true rfl), (Nat.le_of_ble_eq_true rfl)⟩) ⟨zPc.blind, MOK_rec hK hM0 (wp_P hP List.perm_append_comm), zPre hK (wl_P (wp_P hP List.perm_append_comm)) (wl_D (wp_D hD List.perm_append_comm))⟩ rfl rfl hl.1 rfl (lv_room (Nat.le_of_ble_eq_true rfl)) dL_law_799 ⟨hc2, hs2⟩) (wp_P hP List.perm_append_comm) (wp_D hD List.perm_append_comm) hS hA (fun r2 w2 H locs hw2 hP hD hS => ?_)
  have hP := wp_P hP (List.perm_append_comm)
  have hD := wp_D hD (List.perm_append_comm)
  refine lv_pop hx hb dL_law_802 rfl ?_
  refine lv_goto (tgt := 1730) hx hb dL_law_803 (by decide) ?_
  refine W.widen (k := cells + 40) (n := slots + 2000) (by omega) (by omega) ?_
  exact kk w1 w2 H locs ls ⟨_, _, _, hw1.2, hw2.2⟩ hP hD hS hl
set_option maxHeartbeats 4000000 in
set_option maxRecDepth 100000 in
theorem law_c18 {p : Program} {l : Launch} {e : Env} {s : State} {m : MethodId} {below : List Frame} {meth : Method} {c : Code} {b L : Nat} {xs : Nat → Int32} {dC : Nat → ClassId} {dI : Nat → Nat → Nat} {kA : Nat → ClassId} {aS vS : Nat} {oS : Option Nat} {x0 n0 : Nat} (C0 : lw_At p s m meth c b L xs) (hL : L ≤ 5120) (hK : zK dC dI kA s) (hZ : zStr aS vS oS (fun q : Nat => s.heap.size ≤ q) s s.heap) {i : Int32} (hi : 0 ≤ i.toInt ∧ i.toInt + 10 ≤ L) {cells slots : Nat} (hc : cells + 40 ≤ 600000) (hs : slots + 2000 ≤ 7302249) (kk : ∀ (wx wm : va_W) (H : Heap) (locs : List Loc) (ls : Array Slot), LInv kA x0 n0 wx wm → va_P (dC, dI) vwCl (wx ++ wm) H → va_D (fun q : Nat => s.heap.size ≤ q) (wx ++ wm) → va_S (fun q : Nat => s.heap.size ≤ q) s.heap H locs → lv_has ls 4 [(3, .int i), (2, .ref n0), (1, .ref x0), (0, .ref b)] → W p l e room_1 s m #[Value.ref b] below meth c H locs (cells + 40) (slots + 2000) (lw_Z below #[Value.ref b] s) (F0 m 1730 ls [])) (wx wm : va_W) (H : Heap) (locs : List Loc) (ls : Array Slot) (hI : LInv kA x0 n0 wx wm) (hP : va_P (dC, dI) vwCl (wx ++ wm) H) (hD : va_D (fun q : Nat => s.heap.size ≤ q) (wx ++ wm)) (hS : va_S (fun q : Nat => s.heap.size ≤ q) s.heap H locs) (hl : lv_has ls 4 [(3, .int i), (2, .ref n0), (1, .ref x0), (0, .ref b)]) : W p l e room_1 s m #[Value.ref b] below meth c H locs cells slots (lw_Z below #[Value.ref b] s) (F0 m 806 ls []) := by
  obtain ⟨hx, hb, hr, hml, hown0, hts0, hX, hbl, hlocks, hgv⟩ := C0
  have hown : s.vm.findClass RL = some m.cls := hown0
  have hts : ∀ w ∈ wsL_law, w.before #[Value.ref b] s = true := fun w h => hts0 w (wsL_law_in w h)
  have hA : ∀ q : Nat, s.heap.size ≤ q → (fun q : Nat => s.heap.size ≤ q) q := fun _ h => h
  have hbA : ¬ (fun q : Nat => s.heap.size ≤ q) b := Nat.not_le.mpr hbl
  obtain ⟨S_, LL, im, hX0, hM0⟩ := hI
  have hgd := MOK4_gd hM0
  have hxt := MOK4_xt hM0
  have hgr := MOK4_gr hM0
  have hgx := MOK4_gx hM0
  have hc1 : cells + 20 ≤ room_1.cells := by show cells + 20 ≤ 600000; omega
  have hs1 : slots + 1000 ≤ room_1.slots := by show slots + 1000 ≤ 7302249; omega
  have hc2 : cells + 20 + 20 ≤ room_1.cells := by show cells + 20 + 20 ≤ 600000; omega
  have hs2 : slots + 1000 + 1000 ≤ room_1.slots := by show slots + 1000 + 1000 ≤ 7302249; omega
  obtain ⟨a1, ea1⟩ : ∃ y : Int32, y = xs (i + 1).toNatClampNeg := ⟨_, rfl⟩
  obtain ⟨a2, ea2⟩ : ∃ y : Int32, y = xs (i + 2).toNatClampNeg := ⟨_, rfl⟩
  obtain ⟨a3, ea3⟩ : ∃ y : Int32, y = xs (i + 3).toNatClampNeg := ⟨_, rfl⟩
  obtain ⟨a4, ea4⟩ : ∃ y : Int32, y = xs (i + 4).toNatClampNeg := ⟨_, rfl⟩
  obtain ⟨a5, ea5⟩ : ∃ y : Int32, y = xs (i + 5).toNatClampNeg := ⟨_, rfl⟩
  obtain ⟨a6, ea6⟩ : ∃ y : Int32, y = xs (i + 6).toNatClampNeg := ⟨_, rfl⟩
  refine lv_aload_n hx hb dL_law_806 rfl (lv_at hl 2 rfl) ?_
  refine lv_aload_n hx hb dL_law_807 rfl (lv_at hl 3 rfl) ?_
  refine lv_iload_n hx hb dL_law_808 rfl (lv_at hl 0 rfl) ?_
  refine lv_iconst (v := 1) hx hb dL_law_809 (by decide) ?_
  refine lv_iadd hx hb dL_law_810 ?_
  refine va_sld hx hb hX hbl hbA hS (z_sc hi hL (n := 1) (by decide) (by decide)) dL_law_811 ?_
  refine zi a1 ea1.symm ?_
  refine lv_aload_n hx hb dL_law_812 rfl (lv_at hl 3 rfl) ?_
  refine lv_iload_n hx hb dL_law_813 rfl (lv_at hl 0 rfl) ?_
  refine lv_iconst (v := 2) hx hb dL_law_814 (by decide) ?_
  refine lv_iadd hx hb dL_law_815 ?_
  refine va_sld hx hb hX hbl hbA hS (z_sc hi hL (n := 2) (by decide) (by decide)) dL_law_816 ?_
  refine zi a2 ea2.symm ?_
  refine lv_aload_n hx hb dL_law_817 rfl (lv_at hl 3 rfl) ?_
  refine lv_iload_n hx hb dL_law_818 rfl (lv_at hl 0 rfl) ?_
  refine lv_iconst (v := 3) hx hb dL_law_819 (by decide) ?_
  refine lv_iadd hx hb dL_law_820 ?_
  refine va_sld hx hb hX hbl hbA hS (z_sc hi hL (n := 3) (by decide) (by decide)) dL_law_821 ?_
  refine zi a3 ea3.symm ?_
  refine lv_aload_n hx hb dL_law_822 rfl (lv_at hl 3 rfl) ?_
  refine lv_iload_n hx hb dL_law_823 rfl (lv_at hl 0 rfl) ?_
  refine lv_iconst (v := 4) hx hb dL_law_824 (by decide) ?_
  refine lv_iadd hx hb dL_law_825 ?_
  refine va_sld hx hb hX hbl hbA hS (z_sc hi hL (n := 4) (by decide) (by decide)) dL_law_826 ?_
  refine zi a4 ea4.symm ?_
  refine lv_aload_n hx hb dL_law_827 rfl (lv_at hl 3 rfl) ?_
  refine lv_iload_n hx hb dL_law_828 rfl (lv_at hl 0 rfl) ?_
  refine lv_iconst (v := 5) hx hb dL_law_829 (by decide) ?_
  refine lv_iadd hx hb dL_law_830 ?_
  refine va_sld hx hb hX hbl hbA hS (z_sc hi hL (n := 5) (by decide) (by decide)) dL_law_831 ?_
  refine zi a5 ea5.symm ?_
  refine lv_aload_n hx hb dL_law_832 rfl (lv_at hl 3 rfl) ?_
  refine lv_iload_n hx hb dL_law_833 rfl (lv_at hl 0 rfl) ?_
  refine lv_bipush (v := 6) hx hb dL_law_834 (by decide) ?_
  refine lv_iadd hx hb dL_law_836 ?_
  refine va_sld hx hb hX hbl hbA hS (z_sc hi hL (n := 6) (by decide) (by decide)) dL_law_837 ?_
  refine zi a6 ea6.symm ?_
  refine z_iL (wa := wx) (wb := wm) (va_runV (As := [.int a1, .int a2, .int a3, .int a4, .int a5, .int a6]) (rest := []) ⟨hx, hb, hml, hown, hts⟩ (wX10_tried l dC dI kA _ x0 a1 a2 a3 a4 a5 a6 hX0 hgd hxt) (cwV 6 hts gL_law_X10_tried rfl rfl rfl ⟨rfl, hdX10_tried⟩ ⟨(Nat.le_of_ble_eq_true rfl), (Nat.le_of_ble_eq_true rfl)⟩) ⟨zPc.blind, XOK_rec hK hX0 hP, zPre hK (wl_P hP) (wl_D hD)⟩ rfl rfl hl.1 rfl (lv_room (Nat.le_of_ble_eq_true rfl)) dL_law_838 ⟨hc1, hs1⟩) hP hD hS hA (fun r1 w1 H locs hw1 hP hD hS => ?_)
  refine lv_pop hx hb dL_law_841 rfl ?_
  refine lv_aload_n hx hb dL_law_842 rfl (lv_at hl 1 rfl) ?_
  refine lv_aload_n hx hb dL_law_843 rfl (lv_at hl 3 rfl) ?_
  refine lv_iload_n hx hb dL_law_844 rfl (lv_at hl 0 rfl) ?_
  refine lv_iconst (v := 1) hx hb dL_law_845 (by decide) ?_
  refine lv_iadd hx hb dL_law_846 ?_
  refine va_sld hx hb hX hbl hbA hS (z_sc hi hL (n := 1) (by decide) (by decide)) dL_law_847 ?_
  refine zi a1 ea1.symm ?_
  refine lv_aload_n hx hb dL_law_848 rfl (lv_at hl 3 rfl) ?_
  refine lv_iload_n hx hb dL_law_849 rfl (lv_at hl 0 rfl) ?_
  refine lv_iconst (v := 2) hx hb dL_law_850 (by decide) ?_
  refine lv_iadd hx hb dL_law_851 ?_
  refine va_sld hx hb hX hbl hbA hS (z_sc hi hL (n := 2) (by decide) (by decide)) dL_law_852 ?_
  refine zi a2 ea2.symm ?_
  refine lv_aload_n hx hb dL_law_853 rfl (lv_at hl 3 rfl) ?_
  refine lv_iload_n hx hb dL_law_854 rfl (lv_at hl 0 rfl) ?_
  refine lv_iconst (v := 3) hx hb dL_law_855 (by decide) ?_
  refine lv_iadd hx hb dL_law_856 ?_
  refine va_sld hx hb hX hbl hbA hS (z_sc hi hL (n := 3) (by decide) (by decide)) dL_law_857 ?_
  refine zi a3 ea3.symm ?_
  refine lv_aload_n hx hb dL_law_858 rfl (lv_at hl 3 rfl) ?_
  refine lv_iload_n hx hb dL_law_859 rfl (lv_at hl 0 rfl) ?_
  refine lv_iconst (v := 4) hx hb dL_law_860 (by decide) ?_
  refine lv_iadd hx hb dL_law_861 ?_
  refine va_sld hx hb hX hbl hbA hS (z_sc hi hL (n := 4) (by decide) (by decide)) dL_law_862 ?_
  refine zi a4 ea4.symm ?_
  refine lv_aload_n hx hb dL_law_863 rfl (lv_at hl 3 rfl) ?_
  refine lv_iload_n hx hb dL_law_864 rfl (lv_at hl 0 rfl) ?_
  refine lv_iconst (v := 5) hx hb dL_law_865 (by decide) ?_
  refine lv_iadd hx hb dL_law_866 ?_
  refine va_sld hx hb hX hbl hbA hS (z_sc hi hL (n := 5) (by decide) (by decide)) dL_law_867 ?_
  refine zi a5 ea5.symm ?_
  refine lv_aload_n hx hb dL_law_868 rfl (lv_at hl 3 rfl) ?_
  refine lv_iload_n hx hb dL_law_869 rfl (lv_at hl 0 rfl) ?_
  refine lv_bipush (v := 6) hx hb dL_law_870 (by decide) ?_
  refine lv_iadd hx hb dL_law_872 ?_
  refine va_sld hx hb hX hbl hbA hS (z_sc hi hL (n := 6) (by decide) (by decide)) dL_law_873 ?_
  refine zi a6 ea6.symm ?_
  refine z_iL (wa := wm) (wb := w1) (va_runV (As := [.int a1, .int a2, .int a3, .int a4, .int a5, .int a6]) (rest := []) ⟨hx, hb, hml, hown, hts⟩ (wX11_tried l dC dI kA _ n0 a1 a2 a3 a4 a5 a6 hM0) (cwV 6 hts gL_law_X11_tried rfl rfl rfl ⟨rfl, hdX11_tried⟩ ⟨(Nat.le_of_ble_eq_true rfl), (Nat.le_of_ble_eq_true rfl)⟩) ⟨zPc.blind, MOK_rec hK hM0 (wp_P hP List.perm_append_comm), zPre hK (wl_P (wp_P hP List.perm_append_comm)) (wl_D (wp_D hD List.perm_append_comm))⟩ rfl rfl hl.1 rfl (lv_room (Nat.le_of_ble_eq_true rfl)) dL_law_874 ⟨hc2, hs2⟩) (wp_P hP List.perm_append_comm) (wp_D hD List.perm_append_comm) hS hA (fun r2 w2 H locs hw2 hP hD hS => ?_)
  have hP := wp_P hP (List.perm_append_comm)
  have hD := wp_D hD (List.perm_append_comm)
  refine lv_pop hx hb dL_law_877 rfl ?_
  refine lv_goto (tgt := 1730) hx hb dL_law_878 (by decide) ?_
  refine W.widen (k := cells + 40) (n := slots + 2000) (by omega) (by omega) ?_
  exact kk w1 w2 H locs ls ⟨_, _, _, hw1, hw2⟩ hP hD hS hl
set_option maxHeartbeats 4000000 in
set_option maxRecDepth 100000 in
theorem law_c19 {p : Program} {l : Launch} {e : Env} {s : State} {m : MethodId} {below : List Frame} {meth : Method} {c : Code} {b L : Nat} {xs : Nat → Int32} {dC : Nat → ClassId} {dI : Nat → Nat → Nat} {kA : Nat → ClassId} {aS vS : Nat} {oS : Option Nat} {x0 n0 : Nat} (C0 : lw_At p s m meth c b L xs) (hL : L ≤ 5120) (hK : zK dC dI kA s) (hZ : zStr aS vS oS (fun q : Nat => s.heap.size ≤ q) s s.heap) {i : Int32} (hi : 0 ≤ i.toInt ∧ i.toInt + 10 ≤ L) {cells slots : Nat} (hc : cells + 40 ≤ 600000) (hs : slots + 2000 ≤ 7302249) (kk : ∀ (wx wm : va_W) (H : Heap) (locs : List Loc) (ls : Array Slot), LInv kA x0 n0 wx wm → va_P (dC, dI) vwCl (wx ++ wm) H → va_D (fun q : Nat => s.heap.size ≤ q) (wx ++ wm) → va_S (fun q : Nat => s.heap.size ≤ q) s.heap H locs → lv_has ls 4 [(3, .int i), (2, .ref n0), (1, .ref x0), (0, .ref b)] → W p l e room_1 s m #[Value.ref b] below meth c H locs (cells + 40) (slots + 2000) (lw_Z below #[Value.ref b] s) (F0 m 1730 ls [])) (wx wm : va_W) (H : Heap) (locs : List Loc) (ls : Array Slot) (hI : LInv kA x0 n0 wx wm) (hP : va_P (dC, dI) vwCl (wx ++ wm) H) (hD : va_D (fun q : Nat => s.heap.size ≤ q) (wx ++ wm)) (hS : va_S (fun q : Nat => s.heap.size ≤ q) s.heap H locs) (hl : lv_has ls 4 [(3, .int i), (2, .ref n0), (1, .ref x0), (0, .ref b)]) : W p l e room_1 s m #[Value.ref b] below meth c H locs cells slots (lw_Z below #[Value.ref b] s) (F0 m 881 ls []) := by
  obtain ⟨hx, hb, hr, hml, hown0, hts0, hX, hbl, hlocks, hgv⟩ := C0
  have hown : s.vm.findClass RL = some m.cls := hown0
  have hts : ∀ w ∈ wsL_law, w.before #[Value.ref b] s = true := fun w h => hts0 w (wsL_law_in w h)
  have hA : ∀ q : Nat, s.heap.size ≤ q → (fun q : Nat => s.heap.size ≤ q) q := fun _ h => h
  have hbA : ¬ (fun q : Nat => s.heap.size ≤ q) b := Nat.not_le.mpr hbl
  obtain ⟨S_, LL, im, hX0, hM0⟩ := hI
  have hgd := MOK4_gd hM0
  have hxt := MOK4_xt hM0
  have hgr := MOK4_gr hM0
  have hgx := MOK4_gx hM0
  have hc1 : cells + 20 ≤ room_1.cells := by show cells + 20 ≤ 600000; omega
  have hs1 : slots + 1000 ≤ room_1.slots := by show slots + 1000 ≤ 7302249; omega
  have hc2 : cells + 20 + 20 ≤ room_1.cells := by show cells + 20 + 20 ≤ 600000; omega
  have hs2 : slots + 1000 + 1000 ≤ room_1.slots := by show slots + 1000 + 1000 ≤ 7302249; omega
  obtain ⟨a1, ea1⟩ : ∃ y : Int32, y = xs (i + 1).toNatClampNeg := ⟨_, rfl⟩
  obtain ⟨a2, ea2⟩ : ∃ y : Int32, y = xs (i + 2).toNatClampNeg := ⟨_, rfl⟩
  obtain ⟨a3, ea3⟩ : ∃ y : Int32, y = xs (i + 3).toNatClampNeg := ⟨_, rfl⟩
  obtain ⟨a4, ea4⟩ : ∃ y : Int32, y = xs (i + 4).toNatClampNeg := ⟨_, rfl⟩
  obtain ⟨a5, ea5⟩ : ∃ y : Int32, y = xs (i + 5).toNatClampNeg := ⟨_, rfl⟩
  obtain ⟨a6, ea6⟩ : ∃ y : Int32, y = xs (i + 6).toNatClampNeg := ⟨_, rfl⟩
  obtain ⟨a7, ea7⟩ : ∃ y : Int32, y = xs (i + 7).toNatClampNeg := ⟨_, rfl⟩
  obtain ⟨a8, ea8⟩ : ∃ y : Int32, y = xs (i + 8).toNatClampNeg := ⟨_, rfl⟩
  refine lv_aload_n hx hb dL_law_881 rfl (lv_at hl 2 rfl) ?_
  refine lv_aload_n hx hb dL_law_882 rfl (lv_at hl 3 rfl) ?_
  refine lv_iload_n hx hb dL_law_883 rfl (lv_at hl 0 rfl) ?_
  refine lv_iconst (v := 1) hx hb dL_law_884 (by decide) ?_
  refine lv_iadd hx hb dL_law_885 ?_
  refine va_sld hx hb hX hbl hbA hS (z_sc hi hL (n := 1) (by decide) (by decide)) dL_law_886 ?_
  refine zi a1 ea1.symm ?_
  refine lv_aload_n hx hb dL_law_887 rfl (lv_at hl 3 rfl) ?_
  refine lv_iload_n hx hb dL_law_888 rfl (lv_at hl 0 rfl) ?_
  refine lv_iconst (v := 2) hx hb dL_law_889 (by decide) ?_
  refine lv_iadd hx hb dL_law_890 ?_
  refine va_sld hx hb hX hbl hbA hS (z_sc hi hL (n := 2) (by decide) (by decide)) dL_law_891 ?_
  refine zi a2 ea2.symm ?_
  refine lv_aload_n hx hb dL_law_892 rfl (lv_at hl 3 rfl) ?_
  refine lv_iload_n hx hb dL_law_893 rfl (lv_at hl 0 rfl) ?_
  refine lv_iconst (v := 3) hx hb dL_law_894 (by decide) ?_
  refine lv_iadd hx hb dL_law_895 ?_
  refine va_sld hx hb hX hbl hbA hS (z_sc hi hL (n := 3) (by decide) (by decide)) dL_law_896 ?_
  refine zi a3 ea3.symm ?_
  refine lv_aload_n hx hb dL_law_897 rfl (lv_at hl 3 rfl) ?_
  refine lv_iload_n hx hb dL_law_898 rfl (lv_at hl 0 rfl) ?_
  refine lv_iconst (v := 4) hx hb dL_law_899 (by decide) ?_
  refine lv_iadd hx hb dL_law_900 ?_
  refine va_sld hx hb hX hbl hbA hS (z_sc hi hL (n := 4) (by decide) (by decide)) dL_law_901 ?_
  refine zi a4 ea4.symm ?_
  refine lv_aload_n hx hb dL_law_902 rfl (lv_at hl 3 rfl) ?_
  refine lv_iload_n hx hb dL_law_903 rfl (lv_at hl 0 rfl) ?_
  refine lv_iconst (v := 5) hx hb dL_law_904 (by decide) ?_
  refine lv_iadd hx hb dL_law_905 ?_
  refine va_sld hx hb hX hbl hbA hS (z_sc hi hL (n := 5) (by decide) (by decide)) dL_law_906 ?_
  refine zi a5 ea5.symm ?_
  refine lv_aload_n hx hb dL_law_907 rfl (lv_at hl 3 rfl) ?_
  refine lv_iload_n hx hb dL_law_908 rfl (lv_at hl 0 rfl) ?_
  refine lv_bipush (v := 6) hx hb dL_law_909 (by decide) ?_
  refine lv_iadd hx hb dL_law_911 ?_
  refine va_sld hx hb hX hbl hbA hS (z_sc hi hL (n := 6) (by decide) (by decide)) dL_law_912 ?_
  refine zi a6 ea6.symm ?_
  refine lv_aload_n hx hb dL_law_913 rfl (lv_at hl 3 rfl) ?_
  refine lv_iload_n hx hb dL_law_914 rfl (lv_at hl 0 rfl) ?_
  refine lv_bipush (v := 7) hx hb dL_law_915 (by decide) ?_
  refine lv_iadd hx hb dL_law_917 ?_
  refine va_sld hx hb hX hbl hbA hS (z_sc hi hL (n := 7) (by decide) (by decide)) dL_law_918 ?_
  refine zi a7 ea7.symm ?_
  refine lv_aload_n hx hb dL_law_919 rfl (lv_at hl 3 rfl) ?_
  refine lv_iload_n hx hb dL_law_920 rfl (lv_at hl 0 rfl) ?_
  refine lv_bipush (v := 8) hx hb dL_law_921 (by decide) ?_
  refine lv_iadd hx hb dL_law_923 ?_
  refine va_sld hx hb hX hbl hbA hS (z_sc hi hL (n := 8) (by decide) (by decide)) dL_law_924 ?_
  refine zi a8 ea8.symm ?_
  refine z_iL (wa := wx) (wb := wm) (va_runV (As := [.int a1, .int a2, .int a3, .int a4, .int a5, .int a6, .int a7, .int a8]) (rest := []) ⟨hx, hb, hml, hown, hts⟩ (wX10_best l dC dI kA _ x0 a1 a2 a3 a4 a5 a6 a7 a8 hX0 hgd hxt) (cwV 8 hts gL_law_X10_best rfl rfl rfl ⟨rfl, hdX10_best⟩ ⟨(Nat.le_of_ble_eq_true rfl), (Nat.le_of_ble_eq_true rfl)⟩) ⟨zPc.blind, XOK_rec hK hX0 hP, zPre hK (wl_P hP) (wl_D hD)⟩ rfl rfl hl.1 rfl (lv_room (Nat.le_of_ble_eq_true rfl)) dL_law_925 ⟨hc1, hs1⟩) hP hD hS hA (fun r1 w1 H locs hw1 hP hD hS => ?_)
  refine lv_pop hx hb dL_law_928 rfl ?_
  refine lv_aload_n hx hb dL_law_929 rfl (lv_at hl 1 rfl) ?_
  refine lv_aload_n hx hb dL_law_930 rfl (lv_at hl 3 rfl) ?_
  refine lv_iload_n hx hb dL_law_931 rfl (lv_at hl 0 rfl) ?_
  refine lv_iconst (v := 1) hx hb dL_law_932 (by decide) ?_
  refine lv_iadd hx hb dL_law_933 ?_
  refine va_sld hx hb hX hbl hbA hS (z_sc hi hL (n := 1) (by decide) (by decide)) dL_law_934 ?_
  refine zi a1 ea1.symm ?_
  refine lv_aload_n hx hb dL_law_935 rfl (lv_at hl 3 rfl) ?_
  refine lv_iload_n hx hb dL_law_936 rfl (lv_at hl 0 rfl) ?_
  refine lv_iconst (v := 2) hx hb dL_law_937 (by decide) ?_
  refine lv_iadd hx hb dL_law_938 ?_
  refine va_sld hx hb hX hbl hbA hS (z_sc hi hL (n := 2) (by decide) (by decide)) dL_law_939 ?_
  refine zi a2 ea2.symm ?_
  refine lv_aload_n hx hb dL_law_940 rfl (lv_at hl 3 rfl) ?_
  refine lv_iload_n hx hb dL_law_941 rfl (lv_at hl 0 rfl) ?_
  refine lv_iconst (v := 3) hx hb dL_law_942 (by decide) ?_
  refine lv_iadd hx hb dL_law_943 ?_
  refine va_sld hx hb hX hbl hbA hS (z_sc hi hL (n := 3) (by decide) (by decide)) dL_law_944 ?_
  refine zi a3 ea3.symm ?_
  refine lv_aload_n hx hb dL_law_945 rfl (lv_at hl 3 rfl) ?_
  refine lv_iload_n hx hb dL_law_946 rfl (lv_at hl 0 rfl) ?_
  refine lv_iconst (v := 4) hx hb dL_law_947 (by decide) ?_
  refine lv_iadd hx hb dL_law_948 ?_
  refine va_sld hx hb hX hbl hbA hS (z_sc hi hL (n := 4) (by decide) (by decide)) dL_law_949 ?_
  refine zi a4 ea4.symm ?_
  refine lv_aload_n hx hb dL_law_950 rfl (lv_at hl 3 rfl) ?_
  refine lv_iload_n hx hb dL_law_951 rfl (lv_at hl 0 rfl) ?_
  refine lv_iconst (v := 5) hx hb dL_law_952 (by decide) ?_
  refine lv_iadd hx hb dL_law_953 ?_
  refine va_sld hx hb hX hbl hbA hS (z_sc hi hL (n := 5) (by decide) (by decide)) dL_law_954 ?_
  refine zi a5 ea5.symm ?_
  refine lv_aload_n hx hb dL_law_955 rfl (lv_at hl 3 rfl) ?_
  refine lv_iload_n hx hb dL_law_956 rfl (lv_at hl 0 rfl) ?_
  refine lv_bipush (v := 6) hx hb dL_law_957 (by decide) ?_
  refine lv_iadd hx hb dL_law_959 ?_
  refine va_sld hx hb hX hbl hbA hS (z_sc hi hL (n := 6) (by decide) (by decide)) dL_law_960 ?_
  refine zi a6 ea6.symm ?_
  refine lv_aload_n hx hb dL_law_961 rfl (lv_at hl 3 rfl) ?_
  refine lv_iload_n hx hb dL_law_962 rfl (lv_at hl 0 rfl) ?_
  refine lv_bipush (v := 7) hx hb dL_law_963 (by decide) ?_
  refine lv_iadd hx hb dL_law_965 ?_
  refine va_sld hx hb hX hbl hbA hS (z_sc hi hL (n := 7) (by decide) (by decide)) dL_law_966 ?_
  refine zi a7 ea7.symm ?_
  refine lv_aload_n hx hb dL_law_967 rfl (lv_at hl 3 rfl) ?_
  refine lv_iload_n hx hb dL_law_968 rfl (lv_at hl 0 rfl) ?_
  refine lv_bipush (v := 8) hx hb dL_law_969 (by decide) ?_
  refine lv_iadd hx hb dL_law_971 ?_
  refine va_sld hx hb hX hbl hbA hS (z_sc hi hL (n := 8) (by decide) (by decide)) dL_law_972 ?_
  refine zi a8 ea8.symm ?_
  refine z_iL (wa := wm) (wb := w1) (va_runV (As := [.int a1, .int a2, .int a3, .int a4, .int a5, .int a6, .int a7, .int a8]) (rest := []) ⟨hx, hb, hml, hown, hts⟩ (wX11_best l dC dI kA _ n0 a1 a2 a3 a4 a5 a6 a7 a8 hM0) (cwV 8 hts gL_law_X11_best rfl rfl rfl ⟨rfl, hdX11_best⟩ ⟨(Nat.le_of_ble_eq_true rfl), (Nat.le_of_ble_eq_true rfl)⟩) ⟨zPc.blind, MOK_rec hK hM0 (wp_P hP List.perm_append_comm), zPre hK (wl_P (wp_P hP List.perm_append_comm)) (wl_D (wp_D hD List.perm_append_comm))⟩ rfl rfl hl.1 rfl (lv_room (Nat.le_of_ble_eq_true rfl)) dL_law_973 ⟨hc2, hs2⟩) (wp_P hP List.perm_append_comm) (wp_D hD List.perm_append_comm) hS hA (fun r2 w2 H locs hw2 hP hD hS => ?_)
  have hP := wp_P hP (List.perm_append_comm)
  have hD := wp_D hD (List.perm_append_comm)
  refine lv_pop hx hb dL_law_976 rfl ?_
  refine lv_goto (tgt := 1730) hx hb dL_law_977 (by decide) ?_
  refine W.widen (k := cells + 40) (n := slots + 2000) (by omega) (by omega) ?_
  exact kk w1 w2 H locs ls ⟨_, _, _, hw1, hw2⟩ hP hD hS hl
set_option maxHeartbeats 4000000 in
set_option maxRecDepth 100000 in
theorem law_c20 {p : Program} {l : Launch} {e : Env} {s : State} {m : MethodId} {below : List Frame} {meth : Method} {c : Code} {b L : Nat} {xs : Nat → Int32} {dC : Nat → ClassId} {dI : Nat → Nat → Nat} {kA : Nat → ClassId} {aS vS : Nat} {oS : Option Nat} {x0 n0 : Nat} (C0 : lw_At p s m meth c b L xs) (hL : L ≤ 5120) (hK : zK dC dI kA s) (hZ : zStr aS vS oS (fun q : Nat => s.heap.size ≤ q) s s.heap) {i : Int32} (hi : 0 ≤ i.toInt ∧ i.toInt + 10 ≤ L) {cells slots : Nat} (hc : cells + 40 ≤ 600000) (hs : slots + 2000 ≤ 7302249) (kk : ∀ (wx wm : va_W) (H : Heap) (locs : List Loc) (ls : Array Slot), LInv kA x0 n0 wx wm → va_P (dC, dI) vwCl (wx ++ wm) H → va_D (fun q : Nat => s.heap.size ≤ q) (wx ++ wm) → va_S (fun q : Nat => s.heap.size ≤ q) s.heap H locs → lv_has ls 4 [(3, .int i), (2, .ref n0), (1, .ref x0), (0, .ref b)] → W p l e room_1 s m #[Value.ref b] below meth c H locs (cells + 40) (slots + 2000) (lw_Z below #[Value.ref b] s) (F0 m 1730 ls [])) (wx wm : va_W) (H : Heap) (locs : List Loc) (ls : Array Slot) (hI : LInv kA x0 n0 wx wm) (hP : va_P (dC, dI) vwCl (wx ++ wm) H) (hD : va_D (fun q : Nat => s.heap.size ≤ q) (wx ++ wm)) (hS : va_S (fun q : Nat => s.heap.size ≤ q) s.heap H locs) (hl : lv_has ls 4 [(3, .int i), (2, .ref n0), (1, .ref x0), (0, .ref b)]) : W p l e room_1 s m #[Value.ref b] below meth c H locs cells slots (lw_Z below #[Value.ref b] s) (F0 m 980 ls []) := by
  obtain ⟨hx, hb, hr, hml, hown0, hts0, hX, hbl, hlocks, hgv⟩ := C0
  have hown : s.vm.findClass RL = some m.cls := hown0
  have hts : ∀ w ∈ wsL_law, w.before #[Value.ref b] s = true := fun w h => hts0 w (wsL_law_in w h)
  have hA : ∀ q : Nat, s.heap.size ≤ q → (fun q : Nat => s.heap.size ≤ q) q := fun _ h => h
  have hbA : ¬ (fun q : Nat => s.heap.size ≤ q) b := Nat.not_le.mpr hbl
  obtain ⟨S_, LL, im, hX0, hM0⟩ := hI
  have hgd := MOK4_gd hM0
  have hxt := MOK4_xt hM0
  have hgr := MOK4_gr hM0
  have hgx := MOK4_gx hM0
  have hc1 : cells + 20 ≤ room_1.cells := by show cells + 20 ≤ 600000; omega
  have hs1 : slots + 1000 ≤ room_1.slots := by show slots + 1000 ≤ 7302249; omega
  have hc2 : cells + 20 + 20 ≤ room_1.cells := by show cells + 20 + 20 ≤ 600000; omega
  have hs2 : slots + 1000 + 1000 ≤ room_1.slots := by show slots + 1000 + 1000 ≤ 7302249; omega
  obtain ⟨a1, ea1⟩ : ∃ y : Int32, y = xs (i + 1).toNatClampNeg := ⟨_, rfl⟩
  obtain ⟨a2, ea2⟩ : ∃ y : Int32, y = xs (i + 2).toNatClampNeg := ⟨_, rfl⟩
  refine lv_aload_n hx hb dL_law_980 rfl (lv_at hl 2 rfl) ?_
  refine lv_aload_n hx hb dL_law_981 rfl (lv_at hl 3 rfl) ?_
  refine lv_iload_n hx hb dL_law_982 rfl (lv_at hl 0 rfl) ?_
  refine lv_iconst (v := 1) hx hb dL_law_983 (by decide) ?_
  refine lv_iadd hx hb dL_law_984 ?_
  refine va_sld hx hb hX hbl hbA hS (z_sc hi hL (n := 1) (by decide) (by decide)) dL_law_985 ?_
  refine zi a1 ea1.symm ?_
  refine lv_aload_n hx hb dL_law_986 rfl (lv_at hl 3 rfl) ?_
  refine lv_iload_n hx hb dL_law_987 rfl (lv_at hl 0 rfl) ?_
  refine lv_iconst (v := 2) hx hb dL_law_988 (by decide) ?_
  refine lv_iadd hx hb dL_law_989 ?_
  refine va_sld hx hb hX hbl hbA hS (z_sc hi hL (n := 2) (by decide) (by decide)) dL_law_990 ?_
  refine zi a2 ea2.symm ?_
  refine z_iL (wa := wx) (wb := wm) (va_runV (As := [.int a1, .int a2]) (rest := []) ⟨hx, hb, hml, hown, hts⟩ (wX10_soonest l dC dI kA _ x0 a1 a2 hX0 hgd hxt) (cwV 2 hts gL_law_X10_soonest rfl rfl rfl ⟨rfl, hdX10_soonest⟩ ⟨(Nat.le_of_ble_eq_true rfl), (Nat.le_of_ble_eq_true rfl)⟩) ⟨zPc.blind, XOK_rec hK hX0 hP, zPre hK (wl_P hP) (wl_D hD)⟩ rfl rfl hl.1 rfl (lv_room (Nat.le_of_ble_eq_true rfl)) dL_law_991 ⟨hc1, hs1⟩) hP hD hS hA (fun r1 w1 H locs hw1 hP hD hS => ?_)
  refine lv_pop hx hb dL_law_994 rfl ?_
  refine lv_aload_n hx hb dL_law_995 rfl (lv_at hl 1 rfl) ?_
  refine lv_aload_n hx hb dL_law_996 rfl (lv_at hl 3 rfl) ?_
  refine lv_iload_n hx hb dL_law_997 rfl (lv_at hl 0 rfl) ?_
  refine lv_iconst (v := 1) hx hb dL_law_998 (by decide) ?_
  refine lv_iadd hx hb dL_law_999 ?_
  refine va_sld hx hb hX hbl hbA hS (z_sc hi hL (n := 1) (by decide) (by decide)) dL_law_1000 ?_
  refine zi a1 ea1.symm ?_
  refine lv_aload_n hx hb dL_law_1001 rfl (lv_at hl 3 rfl) ?_
  refine lv_iload_n hx hb dL_law_1002 rfl (lv_at hl 0 rfl) ?_
  refine lv_iconst (v := 2) hx hb dL_law_1003 (by decide) ?_
  refine lv_iadd hx hb dL_law_1004 ?_
  refine va_sld hx hb hX hbl hbA hS (z_sc hi hL (n := 2) (by decide) (by decide)) dL_law_1005 ?_
  refine zi a2 ea2.symm ?_
  refine z_iL (wa := wm) (wb := w1) (va_runV (As := [.int a1, .int a2]) (rest := []) ⟨hx, hb, hml, hown, hts⟩ (wX11_soonest l dC dI kA _ n0 a1 a2 hM0) (cwV 2 hts gL_law_X11_soonest rfl rfl rfl ⟨rfl, hdX11_soonest⟩ ⟨(Nat.le_of_ble_eq_true rfl), (Nat.le_of_ble_eq_true rfl)⟩) ⟨zPc.blind, MOK_rec hK hM0 (wp_P hP List.perm_append_comm), zPre hK (wl_P (wp_P hP List.perm_append_comm)) (wl_D (wp_D hD List.perm_append_comm))⟩ rfl rfl hl.1 rfl (lv_room (Nat.le_of_ble_eq_true rfl)) dL_law_1006 ⟨hc2, hs2⟩) (wp_P hP List.perm_append_comm) (wp_D hD List.perm_append_comm) hS hA (fun r2 w2 H locs hw2 hP hD hS => ?_)
  have hP := wp_P hP (List.perm_append_comm)
  have hD := wp_D hD (List.perm_append_comm)
  refine lv_pop hx hb dL_law_1009 rfl ?_
  refine lv_goto (tgt := 1730) hx hb dL_law_1010 (by decide) ?_
  refine W.widen (k := cells + 40) (n := slots + 2000) (by omega) (by omega) ?_
  exact kk w1 w2 H locs ls ⟨_, _, _, hw1, hw2⟩ hP hD hS hl
set_option maxHeartbeats 4000000 in
set_option maxRecDepth 100000 in
theorem law_c21 {p : Program} {l : Launch} {e : Env} {s : State} {m : MethodId} {below : List Frame} {meth : Method} {c : Code} {b L : Nat} {xs : Nat → Int32} {dC : Nat → ClassId} {dI : Nat → Nat → Nat} {kA : Nat → ClassId} {aS vS : Nat} {oS : Option Nat} {x0 n0 : Nat} (C0 : lw_At p s m meth c b L xs) (hL : L ≤ 5120) (hK : zK dC dI kA s) (hZ : zStr aS vS oS (fun q : Nat => s.heap.size ≤ q) s s.heap) {i : Int32} (hi : 0 ≤ i.toInt ∧ i.toInt + 10 ≤ L) {cells slots : Nat} (hc : cells + 40 ≤ 600000) (hs : slots + 2000 ≤ 7302249) (kk : ∀ (wx wm : va_W) (H : Heap) (locs : List Loc) (ls : Array Slot), LInv kA x0 n0 wx wm → va_P (dC, dI) vwCl (wx ++ wm) H → va_D (fun q : Nat => s.heap.size ≤ q) (wx ++ wm) → va_S (fun q : Nat => s.heap.size ≤ q) s.heap H locs → lv_has ls 4 [(3, .int i), (2, .ref n0), (1, .ref x0), (0, .ref b)] → W p l e room_1 s m #[Value.ref b] below meth c H locs (cells + 40) (slots + 2000) (lw_Z below #[Value.ref b] s) (F0 m 1730 ls [])) (wx wm : va_W) (H : Heap) (locs : List Loc) (ls : Array Slot) (hI : LInv kA x0 n0 wx wm) (hP : va_P (dC, dI) vwCl (wx ++ wm) H) (hD : va_D (fun q : Nat => s.heap.size ≤ q) (wx ++ wm)) (hS : va_S (fun q : Nat => s.heap.size ≤ q) s.heap H locs) (hl : lv_has ls 4 [(3, .int i), (2, .ref n0), (1, .ref x0), (0, .ref b)]) : W p l e room_1 s m #[Value.ref b] below meth c H locs cells slots (lw_Z below #[Value.ref b] s) (F0 m 1013 ls []) := by
  obtain ⟨hx, hb, hr, hml, hown0, hts0, hX, hbl, hlocks, hgv⟩ := C0
  have hown : s.vm.findClass RL = some m.cls := hown0
  have hts : ∀ w ∈ wsL_law, w.before #[Value.ref b] s = true := fun w h => hts0 w (wsL_law_in w h)
  have hA : ∀ q : Nat, s.heap.size ≤ q → (fun q : Nat => s.heap.size ≤ q) q := fun _ h => h
  have hbA : ¬ (fun q : Nat => s.heap.size ≤ q) b := Nat.not_le.mpr hbl
  obtain ⟨S_, LL, im, hX0, hM0⟩ := hI
  have hgd := MOK4_gd hM0
  have hxt := MOK4_xt hM0
  have hgr := MOK4_gr hM0
  have hgx := MOK4_gx hM0
  have hc1 : cells + 20 ≤ room_1.cells := by show cells + 20 ≤ 600000; omega
  have hs1 : slots + 1000 ≤ room_1.slots := by show slots + 1000 ≤ 7302249; omega
  have hc2 : cells + 20 + 20 ≤ room_1.cells := by show cells + 20 + 20 ≤ 600000; omega
  have hs2 : slots + 1000 + 1000 ≤ room_1.slots := by show slots + 1000 + 1000 ≤ 7302249; omega
  obtain ⟨a1, ea1⟩ : ∃ y : Int32, y = xs (i + 1).toNatClampNeg := ⟨_, rfl⟩
  obtain ⟨a2, ea2⟩ : ∃ y : Int32, y = xs (i + 2).toNatClampNeg := ⟨_, rfl⟩
  refine lv_aload_n hx hb dL_law_1013 rfl (lv_at hl 2 rfl) ?_
  refine lv_aload_n hx hb dL_law_1014 rfl (lv_at hl 3 rfl) ?_
  refine lv_iload_n hx hb dL_law_1015 rfl (lv_at hl 0 rfl) ?_
  refine lv_iconst (v := 1) hx hb dL_law_1016 (by decide) ?_
  refine lv_iadd hx hb dL_law_1017 ?_
  refine va_sld hx hb hX hbl hbA hS (z_sc hi hL (n := 1) (by decide) (by decide)) dL_law_1018 ?_
  refine zi a1 ea1.symm ?_
  refine lv_aload_n hx hb dL_law_1019 rfl (lv_at hl 3 rfl) ?_
  refine lv_iload_n hx hb dL_law_1020 rfl (lv_at hl 0 rfl) ?_
  refine lv_iconst (v := 2) hx hb dL_law_1021 (by decide) ?_
  refine lv_iadd hx hb dL_law_1022 ?_
  refine va_sld hx hb hX hbl hbA hS (z_sc hi hL (n := 2) (by decide) (by decide)) dL_law_1023 ?_
  refine zi a2 ea2.symm ?_
  refine z_iL (wa := wx) (wb := wm) (va_runV (As := [.int a1, .int a2]) (rest := []) ⟨hx, hb, hml, hown, hts⟩ (wX10_nearest l dC dI kA _ x0 a1 a2 hX0 hgd hxt) (cwV 2 hts gL_law_X10_nearest rfl rfl rfl ⟨rfl, hdX10_nearest⟩ ⟨(Nat.le_of_ble_eq_true rfl), (Nat.le_of_ble_eq_true rfl)⟩) ⟨zPc.blind, XOK_rec hK hX0 hP, zPre hK (wl_P hP) (wl_D hD)⟩ rfl rfl hl.1 rfl (lv_room (Nat.le_of_ble_eq_true rfl)) dL_law_1024 ⟨hc1, hs1⟩) hP hD hS hA (fun r1 w1 H locs hw1 hP hD hS => ?_)
  refine lv_pop hx hb dL_law_1027 rfl ?_
  refine lv_aload_n hx hb dL_law_1028 rfl (lv_at hl 1 rfl) ?_
  refine lv_aload_n hx hb dL_law_1029 rfl (lv_at hl 3 rfl) ?_
  refine lv_iload_n hx hb dL_law_1030 rfl (lv_at hl 0 rfl) ?_
  refine lv_iconst (v := 1) hx hb dL_law_1031 (by decide) ?_
  refine lv_iadd hx hb dL_law_1032 ?_
  refine va_sld hx hb hX hbl hbA hS (z_sc hi hL (n := 1) (by decide) (by decide)) dL_law_1033 ?_
  refine zi a1 ea1.symm ?_
  refine lv_aload_n hx hb dL_law_1034 rfl (lv_at hl 3 rfl) ?_
  refine lv_iload_n hx hb dL_law_1035 rfl (lv_at hl 0 rfl) ?_
  refine lv_iconst (v := 2) hx hb dL_law_1036 (by decide) ?_
  refine lv_iadd hx hb dL_law_1037 ?_
  refine va_sld hx hb hX hbl hbA hS (z_sc hi hL (n := 2) (by decide) (by decide)) dL_law_1038 ?_
  refine zi a2 ea2.symm ?_
  refine z_iL (wa := wm) (wb := w1) (va_runV (As := [.int a1, .int a2]) (rest := []) ⟨hx, hb, hml, hown, hts⟩ (wX11_nearest l dC dI kA _ n0 a1 a2 hM0) (cwV 2 hts gL_law_X11_nearest rfl rfl rfl ⟨rfl, hdX11_nearest⟩ ⟨(Nat.le_of_ble_eq_true rfl), (Nat.le_of_ble_eq_true rfl)⟩) ⟨zPc.blind, MOK_rec hK hM0 (wp_P hP List.perm_append_comm), zPre hK (wl_P (wp_P hP List.perm_append_comm)) (wl_D (wp_D hD List.perm_append_comm))⟩ rfl rfl hl.1 rfl (lv_room (Nat.le_of_ble_eq_true rfl)) dL_law_1039 ⟨hc2, hs2⟩) (wp_P hP List.perm_append_comm) (wp_D hD List.perm_append_comm) hS hA (fun r2 w2 H locs hw2 hP hD hS => ?_)
  have hP := wp_P hP (List.perm_append_comm)
  have hD := wp_D hD (List.perm_append_comm)
  refine lv_pop hx hb dL_law_1042 rfl ?_
  refine lv_goto (tgt := 1730) hx hb dL_law_1043 (by decide) ?_
  refine W.widen (k := cells + 40) (n := slots + 2000) (by omega) (by omega) ?_
  exact kk w1 w2 H locs ls ⟨_, _, _, hw1, hw2⟩ hP hD hS hl
set_option maxHeartbeats 4000000 in
set_option maxRecDepth 100000 in
theorem law_c22 {p : Program} {l : Launch} {e : Env} {s : State} {m : MethodId} {below : List Frame} {meth : Method} {c : Code} {b L : Nat} {xs : Nat → Int32} {dC : Nat → ClassId} {dI : Nat → Nat → Nat} {kA : Nat → ClassId} {aS vS : Nat} {oS : Option Nat} {x0 n0 : Nat} (C0 : lw_At p s m meth c b L xs) (hL : L ≤ 5120) (hK : zK dC dI kA s) (hZ : zStr aS vS oS (fun q : Nat => s.heap.size ≤ q) s s.heap) {i : Int32} (hi : 0 ≤ i.toInt ∧ i.toInt + 10 ≤ L) {cells slots : Nat} (hc : cells + 40 ≤ 600000) (hs : slots + 2000 ≤ 7302249) (kk : ∀ (wx wm : va_W) (H : Heap) (locs : List Loc) (ls : Array Slot), LInv kA x0 n0 wx wm → va_P (dC, dI) vwCl (wx ++ wm) H → va_D (fun q : Nat => s.heap.size ≤ q) (wx ++ wm) → va_S (fun q : Nat => s.heap.size ≤ q) s.heap H locs → lv_has ls 4 [(3, .int i), (2, .ref n0), (1, .ref x0), (0, .ref b)] → W p l e room_1 s m #[Value.ref b] below meth c H locs (cells + 40) (slots + 2000) (lw_Z below #[Value.ref b] s) (F0 m 1730 ls [])) (wx wm : va_W) (H : Heap) (locs : List Loc) (ls : Array Slot) (hI : LInv kA x0 n0 wx wm) (hP : va_P (dC, dI) vwCl (wx ++ wm) H) (hD : va_D (fun q : Nat => s.heap.size ≤ q) (wx ++ wm)) (hS : va_S (fun q : Nat => s.heap.size ≤ q) s.heap H locs) (hl : lv_has ls 4 [(3, .int i), (2, .ref n0), (1, .ref x0), (0, .ref b)]) : W p l e room_1 s m #[Value.ref b] below meth c H locs cells slots (lw_Z below #[Value.ref b] s) (F0 m 1046 ls []) := by
  obtain ⟨hx, hb, hr, hml, hown0, hts0, hX, hbl, hlocks, hgv⟩ := C0
  have hown : s.vm.findClass RL = some m.cls := hown0
  have hts : ∀ w ∈ wsL_law, w.before #[Value.ref b] s = true := fun w h => hts0 w (wsL_law_in w h)
  have hA : ∀ q : Nat, s.heap.size ≤ q → (fun q : Nat => s.heap.size ≤ q) q := fun _ h => h
  have hbA : ¬ (fun q : Nat => s.heap.size ≤ q) b := Nat.not_le.mpr hbl
  obtain ⟨S_, LL, im, hX0, hM0⟩ := hI
  have hgd := MOK4_gd hM0
  have hxt := MOK4_xt hM0
  have hgr := MOK4_gr hM0
  have hgx := MOK4_gx hM0
  have hc1 : cells + 20 ≤ room_1.cells := by show cells + 20 ≤ 600000; omega
  have hs1 : slots + 1000 ≤ room_1.slots := by show slots + 1000 ≤ 7302249; omega
  have hc2 : cells + 20 + 20 ≤ room_1.cells := by show cells + 20 + 20 ≤ 600000; omega
  have hs2 : slots + 1000 + 1000 ≤ room_1.slots := by show slots + 1000 + 1000 ≤ 7302249; omega
  obtain ⟨a1, ea1⟩ : ∃ y : Int32, y = xs (i + 1).toNatClampNeg := ⟨_, rfl⟩
  obtain ⟨a2, ea2⟩ : ∃ y : Int32, y = xs (i + 2).toNatClampNeg := ⟨_, rfl⟩
  obtain ⟨a3, ea3⟩ : ∃ y : Int32, y = xs (i + 3).toNatClampNeg := ⟨_, rfl⟩
  obtain ⟨a4, ea4⟩ : ∃ y : Int32, y = xs (i + 4).toNatClampNeg := ⟨_, rfl⟩
  obtain ⟨a5, ea5⟩ : ∃ y : Int32, y = xs (i + 5).toNatClampNeg := ⟨_, rfl⟩
  obtain ⟨a6, ea6⟩ : ∃ y : Int32, y = xs (i + 6).toNatClampNeg := ⟨_, rfl⟩
  refine lv_aload_n hx hb dL_law_1046 rfl (lv_at hl 2 rfl) ?_
  refine lv_aload_n hx hb dL_law_1047 rfl (lv_at hl 3 rfl) ?_
  refine lv_iload_n hx hb dL_law_1048 rfl (lv_at hl 0 rfl) ?_
  refine lv_iconst (v := 1) hx hb dL_law_1049 (by decide) ?_
  refine lv_iadd hx hb dL_law_1050 ?_
  refine va_sld hx hb hX hbl hbA hS (z_sc hi hL (n := 1) (by decide) (by decide)) dL_law_1051 ?_
  refine zi a1 ea1.symm ?_
  refine lv_aload_n hx hb dL_law_1052 rfl (lv_at hl 3 rfl) ?_
  refine lv_iload_n hx hb dL_law_1053 rfl (lv_at hl 0 rfl) ?_
  refine lv_iconst (v := 2) hx hb dL_law_1054 (by decide) ?_
  refine lv_iadd hx hb dL_law_1055 ?_
  refine va_sld hx hb hX hbl hbA hS (z_sc hi hL (n := 2) (by decide) (by decide)) dL_law_1056 ?_
  refine zi a2 ea2.symm ?_
  refine lv_aload_n hx hb dL_law_1057 rfl (lv_at hl 3 rfl) ?_
  refine lv_iload_n hx hb dL_law_1058 rfl (lv_at hl 0 rfl) ?_
  refine lv_iconst (v := 3) hx hb dL_law_1059 (by decide) ?_
  refine lv_iadd hx hb dL_law_1060 ?_
  refine va_sld hx hb hX hbl hbA hS (z_sc hi hL (n := 3) (by decide) (by decide)) dL_law_1061 ?_
  refine zi a3 ea3.symm ?_
  refine lv_aload_n hx hb dL_law_1062 rfl (lv_at hl 3 rfl) ?_
  refine lv_iload_n hx hb dL_law_1063 rfl (lv_at hl 0 rfl) ?_
  refine lv_iconst (v := 4) hx hb dL_law_1064 (by decide) ?_
  refine lv_iadd hx hb dL_law_1065 ?_
  refine va_sld hx hb hX hbl hbA hS (z_sc hi hL (n := 4) (by decide) (by decide)) dL_law_1066 ?_
  refine zi a4 ea4.symm ?_
  refine lv_aload_n hx hb dL_law_1067 rfl (lv_at hl 3 rfl) ?_
  refine lv_iload_n hx hb dL_law_1068 rfl (lv_at hl 0 rfl) ?_
  refine lv_iconst (v := 5) hx hb dL_law_1069 (by decide) ?_
  refine lv_iadd hx hb dL_law_1070 ?_
  refine va_sld hx hb hX hbl hbA hS (z_sc hi hL (n := 5) (by decide) (by decide)) dL_law_1071 ?_
  refine zi a5 ea5.symm ?_
  refine lv_aload_n hx hb dL_law_1072 rfl (lv_at hl 3 rfl) ?_
  refine lv_iload_n hx hb dL_law_1073 rfl (lv_at hl 0 rfl) ?_
  refine lv_bipush (v := 6) hx hb dL_law_1074 (by decide) ?_
  refine lv_iadd hx hb dL_law_1076 ?_
  refine va_sld hx hb hX hbl hbA hS (z_sc hi hL (n := 6) (by decide) (by decide)) dL_law_1077 ?_
  refine zi a6 ea6.symm ?_
  refine z_iL (wa := wx) (wb := wm) (va_runV (As := [.int a1, .int a2, .int a3, .int a4, .int a5, .int a6]) (rest := []) ⟨hx, hb, hml, hown, hts⟩ (wX10_warmer l dC dI kA _ x0 a1 a2 a3 a4 a5 a6 hX0 hgd hxt) (cwV 6 hts gL_law_X10_warmer rfl rfl rfl ⟨rfl, hdX10_warmer⟩ ⟨(Nat.le_of_ble_eq_true rfl), (Nat.le_of_ble_eq_true rfl)⟩) ⟨zPc.blind, XOK_rec hK hX0 hP, zPre hK (wl_P hP) (wl_D hD)⟩ rfl rfl hl.1 rfl (lv_room (Nat.le_of_ble_eq_true rfl)) dL_law_1078 ⟨hc1, hs1⟩) hP hD hS hA (fun r1 w1 H locs hw1 hP hD hS => ?_)
  refine lv_pop hx hb dL_law_1081 rfl ?_
  refine lv_aload_n hx hb dL_law_1082 rfl (lv_at hl 1 rfl) ?_
  refine lv_aload_n hx hb dL_law_1083 rfl (lv_at hl 3 rfl) ?_
  refine lv_iload_n hx hb dL_law_1084 rfl (lv_at hl 0 rfl) ?_
  refine lv_iconst (v := 1) hx hb dL_law_1085 (by decide) ?_
  refine lv_iadd hx hb dL_law_1086 ?_
  refine va_sld hx hb hX hbl hbA hS (z_sc hi hL (n := 1) (by decide) (by decide)) dL_law_1087 ?_
  refine zi a1 ea1.symm ?_
  refine lv_aload_n hx hb dL_law_1088 rfl (lv_at hl 3 rfl) ?_
  refine lv_iload_n hx hb dL_law_1089 rfl (lv_at hl 0 rfl) ?_
  refine lv_iconst (v := 2) hx hb dL_law_1090 (by decide) ?_
  refine lv_iadd hx hb dL_law_1091 ?_
  refine va_sld hx hb hX hbl hbA hS (z_sc hi hL (n := 2) (by decide) (by decide)) dL_law_1092 ?_
  refine zi a2 ea2.symm ?_
  refine lv_aload_n hx hb dL_law_1093 rfl (lv_at hl 3 rfl) ?_
  refine lv_iload_n hx hb dL_law_1094 rfl (lv_at hl 0 rfl) ?_
  refine lv_iconst (v := 3) hx hb dL_law_1095 (by decide) ?_
  refine lv_iadd hx hb dL_law_1096 ?_
  refine va_sld hx hb hX hbl hbA hS (z_sc hi hL (n := 3) (by decide) (by decide)) dL_law_1097 ?_
  refine zi a3 ea3.symm ?_
  refine lv_aload_n hx hb dL_law_1098 rfl (lv_at hl 3 rfl) ?_
  refine lv_iload_n hx hb dL_law_1099 rfl (lv_at hl 0 rfl) ?_
  refine lv_iconst (v := 4) hx hb dL_law_1100 (by decide) ?_
  refine lv_iadd hx hb dL_law_1101 ?_
  refine va_sld hx hb hX hbl hbA hS (z_sc hi hL (n := 4) (by decide) (by decide)) dL_law_1102 ?_
  refine zi a4 ea4.symm ?_
  refine lv_aload_n hx hb dL_law_1103 rfl (lv_at hl 3 rfl) ?_
  refine lv_iload_n hx hb dL_law_1104 rfl (lv_at hl 0 rfl) ?_
  refine lv_iconst (v := 5) hx hb dL_law_1105 (by decide) ?_
  refine lv_iadd hx hb dL_law_1106 ?_
  refine va_sld hx hb hX hbl hbA hS (z_sc hi hL (n := 5) (by decide) (by decide)) dL_law_1107 ?_
  refine zi a5 ea5.symm ?_
  refine lv_aload_n hx hb dL_law_1108 rfl (lv_at hl 3 rfl) ?_
  refine lv_iload_n hx hb dL_law_1109 rfl (lv_at hl 0 rfl) ?_
  refine lv_bipush (v := 6) hx hb dL_law_1110 (by decide) ?_
  refine lv_iadd hx hb dL_law_1112 ?_
  refine va_sld hx hb hX hbl hbA hS (z_sc hi hL (n := 6) (by decide) (by decide)) dL_law_1113 ?_
  refine zi a6 ea6.symm ?_
  refine z_iL (wa := wm) (wb := w1) (va_runV (As := [.int a1, .int a2, .int a3, .int a4, .int a5, .int a6]) (rest := []) ⟨hx, hb, hml, hown, hts⟩ (wX11_warmer l dC dI kA _ n0 a1 a2 a3 a4 a5 a6 hM0) (cwV 6 hts gL_law_X11_warmer rfl rfl rfl ⟨rfl, hdX11_warmer⟩ ⟨(Nat.le_of_ble_eq_true rfl), (Nat.le_of_ble_eq_true rfl)⟩) ⟨zPc.blind, MOK_rec hK hM0 (wp_P hP List.perm_append_comm), zPre hK (wl_P (wp_P hP List.perm_append_comm)) (wl_D (wp_D hD List.perm_append_comm))⟩ rfl rfl hl.1 rfl (lv_room (Nat.le_of_ble_eq_true rfl)) dL_law_1114 ⟨hc2, hs2⟩) (wp_P hP List.perm_append_comm) (wp_D hD List.perm_append_comm) hS hA (fun r2 w2 H locs hw2 hP hD hS => ?_)
  have hP := wp_P hP (List.perm_append_comm)
  have hD := wp_D hD (List.perm_append_comm)
  refine lv_pop hx hb dL_law_1117 rfl ?_
  refine lv_goto (tgt := 1730) hx hb dL_law_1118 (by decide) ?_
  refine W.widen (k := cells + 40) (n := slots + 2000) (by omega) (by omega) ?_
  exact kk w1 w2 H locs ls ⟨_, _, _, hw1, hw2⟩ hP hD hS hl
set_option maxHeartbeats 4000000 in
set_option maxRecDepth 100000 in
theorem law_c23 {p : Program} {l : Launch} {e : Env} {s : State} {m : MethodId} {below : List Frame} {meth : Method} {c : Code} {b L : Nat} {xs : Nat → Int32} {dC : Nat → ClassId} {dI : Nat → Nat → Nat} {kA : Nat → ClassId} {aS vS : Nat} {oS : Option Nat} {x0 n0 : Nat} (C0 : lw_At p s m meth c b L xs) (hL : L ≤ 5120) (hK : zK dC dI kA s) (hZ : zStr aS vS oS (fun q : Nat => s.heap.size ≤ q) s s.heap) {i : Int32} (hi : 0 ≤ i.toInt ∧ i.toInt + 10 ≤ L) {cells slots : Nat} (hc : cells + 40 ≤ 600000) (hs : slots + 2000 ≤ 7302249) (kk : ∀ (wx wm : va_W) (H : Heap) (locs : List Loc) (ls : Array Slot), LInv kA x0 n0 wx wm → va_P (dC, dI) vwCl (wx ++ wm) H → va_D (fun q : Nat => s.heap.size ≤ q) (wx ++ wm) → va_S (fun q : Nat => s.heap.size ≤ q) s.heap H locs → lv_has ls 4 [(3, .int i), (2, .ref n0), (1, .ref x0), (0, .ref b)] → W p l e room_1 s m #[Value.ref b] below meth c H locs (cells + 40) (slots + 2000) (lw_Z below #[Value.ref b] s) (F0 m 1730 ls [])) (wx wm : va_W) (H : Heap) (locs : List Loc) (ls : Array Slot) (hI : LInv kA x0 n0 wx wm) (hP : va_P (dC, dI) vwCl (wx ++ wm) H) (hD : va_D (fun q : Nat => s.heap.size ≤ q) (wx ++ wm)) (hS : va_S (fun q : Nat => s.heap.size ≤ q) s.heap H locs) (hl : lv_has ls 4 [(3, .int i), (2, .ref n0), (1, .ref x0), (0, .ref b)]) : W p l e room_1 s m #[Value.ref b] below meth c H locs cells slots (lw_Z below #[Value.ref b] s) (F0 m 1121 ls []) := by
  obtain ⟨hx, hb, hr, hml, hown0, hts0, hX, hbl, hlocks, hgv⟩ := C0
  have hown : s.vm.findClass RL = some m.cls := hown0
  have hts : ∀ w ∈ wsL_law, w.before #[Value.ref b] s = true := fun w h => hts0 w (wsL_law_in w h)
  have hA : ∀ q : Nat, s.heap.size ≤ q → (fun q : Nat => s.heap.size ≤ q) q := fun _ h => h
  have hbA : ¬ (fun q : Nat => s.heap.size ≤ q) b := Nat.not_le.mpr hbl
  obtain ⟨S_, LL, im, hX0, hM0⟩ := hI
  have hgd := MOK4_gd hM0
  have hxt := MOK4_xt hM0
  have hgr := MOK4_gr hM0
  have hgx := MOK4_gx hM0
  have hc1 : cells + 20 ≤ room_1.cells := by show cells + 20 ≤ 600000; omega
  have hs1 : slots + 1000 ≤ room_1.slots := by show slots + 1000 ≤ 7302249; omega
  have hc2 : cells + 20 + 20 ≤ room_1.cells := by show cells + 20 + 20 ≤ 600000; omega
  have hs2 : slots + 1000 + 1000 ≤ room_1.slots := by show slots + 1000 + 1000 ≤ 7302249; omega
  obtain ⟨a1, ea1⟩ : ∃ y : Int32, y = xs (i + 1).toNatClampNeg := ⟨_, rfl⟩
  obtain ⟨a2, ea2⟩ : ∃ y : Int32, y = xs (i + 2).toNatClampNeg := ⟨_, rfl⟩
  obtain ⟨a3, ea3⟩ : ∃ y : Int32, y = xs (i + 3).toNatClampNeg := ⟨_, rfl⟩
  obtain ⟨a4, ea4⟩ : ∃ y : Int32, y = xs (i + 4).toNatClampNeg := ⟨_, rfl⟩
  obtain ⟨a5, ea5⟩ : ∃ y : Int32, y = xs (i + 5).toNatClampNeg := ⟨_, rfl⟩
  obtain ⟨a6, ea6⟩ : ∃ y : Int32, y = xs (i + 6).toNatClampNeg := ⟨_, rfl⟩
  obtain ⟨a7, ea7⟩ : ∃ y : Int32, y = xs (i + 7).toNatClampNeg := ⟨_, rfl⟩
  obtain ⟨a8, ea8⟩ : ∃ y : Int32, y = xs (i + 8).toNatClampNeg := ⟨_, rfl⟩
  obtain ⟨a9, ea9⟩ : ∃ y : Int32, y = xs (i + 9).toNatClampNeg := ⟨_, rfl⟩
  refine lv_aload_n hx hb dL_law_1121 rfl (lv_at hl 2 rfl) ?_
  refine lv_aload_n hx hb dL_law_1122 rfl (lv_at hl 3 rfl) ?_
  refine lv_iload_n hx hb dL_law_1123 rfl (lv_at hl 0 rfl) ?_
  refine lv_iconst (v := 1) hx hb dL_law_1124 (by decide) ?_
  refine lv_iadd hx hb dL_law_1125 ?_
  refine va_sld hx hb hX hbl hbA hS (z_sc hi hL (n := 1) (by decide) (by decide)) dL_law_1126 ?_
  refine zi a1 ea1.symm ?_
  refine lv_aload_n hx hb dL_law_1127 rfl (lv_at hl 3 rfl) ?_
  refine lv_iload_n hx hb dL_law_1128 rfl (lv_at hl 0 rfl) ?_
  refine lv_iconst (v := 2) hx hb dL_law_1129 (by decide) ?_
  refine lv_iadd hx hb dL_law_1130 ?_
  refine va_sld hx hb hX hbl hbA hS (z_sc hi hL (n := 2) (by decide) (by decide)) dL_law_1131 ?_
  refine zi a2 ea2.symm ?_
  refine lv_aload_n hx hb dL_law_1132 rfl (lv_at hl 3 rfl) ?_
  refine lv_iload_n hx hb dL_law_1133 rfl (lv_at hl 0 rfl) ?_
  refine lv_iconst (v := 3) hx hb dL_law_1134 (by decide) ?_
  refine lv_iadd hx hb dL_law_1135 ?_
  refine va_sld hx hb hX hbl hbA hS (z_sc hi hL (n := 3) (by decide) (by decide)) dL_law_1136 ?_
  refine zi a3 ea3.symm ?_
  refine lv_aload_n hx hb dL_law_1137 rfl (lv_at hl 3 rfl) ?_
  refine lv_iload_n hx hb dL_law_1138 rfl (lv_at hl 0 rfl) ?_
  refine lv_iconst (v := 4) hx hb dL_law_1139 (by decide) ?_
  refine lv_iadd hx hb dL_law_1140 ?_
  refine va_sld hx hb hX hbl hbA hS (z_sc hi hL (n := 4) (by decide) (by decide)) dL_law_1141 ?_
  refine zi a4 ea4.symm ?_
  refine lv_aload_n hx hb dL_law_1142 rfl (lv_at hl 3 rfl) ?_
  refine lv_iload_n hx hb dL_law_1143 rfl (lv_at hl 0 rfl) ?_
  refine lv_iconst (v := 5) hx hb dL_law_1144 (by decide) ?_
  refine lv_iadd hx hb dL_law_1145 ?_
  refine va_sld hx hb hX hbl hbA hS (z_sc hi hL (n := 5) (by decide) (by decide)) dL_law_1146 ?_
  refine zi a5 ea5.symm ?_
  refine lv_aload_n hx hb dL_law_1147 rfl (lv_at hl 3 rfl) ?_
  refine lv_iload_n hx hb dL_law_1148 rfl (lv_at hl 0 rfl) ?_
  refine lv_bipush (v := 6) hx hb dL_law_1149 (by decide) ?_
  refine lv_iadd hx hb dL_law_1151 ?_
  refine va_sld hx hb hX hbl hbA hS (z_sc hi hL (n := 6) (by decide) (by decide)) dL_law_1152 ?_
  refine zi a6 ea6.symm ?_
  refine lv_aload_n hx hb dL_law_1153 rfl (lv_at hl 3 rfl) ?_
  refine lv_iload_n hx hb dL_law_1154 rfl (lv_at hl 0 rfl) ?_
  refine lv_bipush (v := 7) hx hb dL_law_1155 (by decide) ?_
  refine lv_iadd hx hb dL_law_1157 ?_
  refine va_sld hx hb hX hbl hbA hS (z_sc hi hL (n := 7) (by decide) (by decide)) dL_law_1158 ?_
  refine zi a7 ea7.symm ?_
  refine lv_aload_n hx hb dL_law_1159 rfl (lv_at hl 3 rfl) ?_
  refine lv_iload_n hx hb dL_law_1160 rfl (lv_at hl 0 rfl) ?_
  refine lv_bipush (v := 8) hx hb dL_law_1161 (by decide) ?_
  refine lv_iadd hx hb dL_law_1163 ?_
  refine va_sld hx hb hX hbl hbA hS (z_sc hi hL (n := 8) (by decide) (by decide)) dL_law_1164 ?_
  refine zi a8 ea8.symm ?_
  refine lv_aload_n hx hb dL_law_1165 rfl (lv_at hl 3 rfl) ?_
  refine lv_iload_n hx hb dL_law_1166 rfl (lv_at hl 0 rfl) ?_
  refine lv_bipush (v := 9) hx hb dL_law_1167 (by decide) ?_
  refine lv_iadd hx hb dL_law_1169 ?_
  refine va_sld hx hb hX hbl hbA hS (z_sc hi hL (n := 9) (by decide) (by decide)) dL_law_1170 ?_
  refine zi a9 ea9.symm ?_
  refine z_iL (wa := wx) (wb := wm) (va_runV (As := [.int a1, .int a2, .int a3, .int a4, .int a5, .int a6, .int a7, .int a8, .int a9]) (rest := []) ⟨hx, hb, hml, hown, hts⟩ (wX10_guess l dC dI kA _ x0 a1 a2 a3 a4 a5 a6 a7 a8 a9 hX0 hgd hxt) (cwV 9 hts gL_law_X10_guess rfl rfl rfl ⟨rfl, hdX10_guess⟩ ⟨(Nat.le_of_ble_eq_true rfl), (Nat.le_of_ble_eq_true rfl)⟩) ⟨zPc.blind, XOK_rec hK hX0 hP, zPre hK (wl_P hP) (wl_D hD)⟩ rfl rfl hl.1 rfl (lv_room (Nat.le_of_ble_eq_true rfl)) dL_law_1171 ⟨hc1, hs1⟩) hP hD hS hA (fun r1 w1 H locs hw1 hP hD hS => ?_)
  refine lv_pop hx hb dL_law_1174 rfl ?_
  refine lv_aload_n hx hb dL_law_1175 rfl (lv_at hl 1 rfl) ?_
  refine lv_aload_n hx hb dL_law_1176 rfl (lv_at hl 3 rfl) ?_
  refine lv_iload_n hx hb dL_law_1177 rfl (lv_at hl 0 rfl) ?_
  refine lv_iconst (v := 1) hx hb dL_law_1178 (by decide) ?_
  refine lv_iadd hx hb dL_law_1179 ?_
  refine va_sld hx hb hX hbl hbA hS (z_sc hi hL (n := 1) (by decide) (by decide)) dL_law_1180 ?_
  refine zi a1 ea1.symm ?_
  refine lv_aload_n hx hb dL_law_1181 rfl (lv_at hl 3 rfl) ?_
  refine lv_iload_n hx hb dL_law_1182 rfl (lv_at hl 0 rfl) ?_
  refine lv_iconst (v := 2) hx hb dL_law_1183 (by decide) ?_
  refine lv_iadd hx hb dL_law_1184 ?_
  refine va_sld hx hb hX hbl hbA hS (z_sc hi hL (n := 2) (by decide) (by decide)) dL_law_1185 ?_
  refine zi a2 ea2.symm ?_
  refine lv_aload_n hx hb dL_law_1186 rfl (lv_at hl 3 rfl) ?_
  refine lv_iload_n hx hb dL_law_1187 rfl (lv_at hl 0 rfl) ?_
  refine lv_iconst (v := 3) hx hb dL_law_1188 (by decide) ?_
  refine lv_iadd hx hb dL_law_1189 ?_
  refine va_sld hx hb hX hbl hbA hS (z_sc hi hL (n := 3) (by decide) (by decide)) dL_law_1190 ?_
  refine zi a3 ea3.symm ?_
  refine lv_aload_n hx hb dL_law_1191 rfl (lv_at hl 3 rfl) ?_
  refine lv_iload_n hx hb dL_law_1192 rfl (lv_at hl 0 rfl) ?_
  refine lv_iconst (v := 4) hx hb dL_law_1193 (by decide) ?_
  refine lv_iadd hx hb dL_law_1194 ?_
  refine va_sld hx hb hX hbl hbA hS (z_sc hi hL (n := 4) (by decide) (by decide)) dL_law_1195 ?_
  refine zi a4 ea4.symm ?_
  refine lv_aload_n hx hb dL_law_1196 rfl (lv_at hl 3 rfl) ?_
  refine lv_iload_n hx hb dL_law_1197 rfl (lv_at hl 0 rfl) ?_
  refine lv_iconst (v := 5) hx hb dL_law_1198 (by decide) ?_
  refine lv_iadd hx hb dL_law_1199 ?_
  refine va_sld hx hb hX hbl hbA hS (z_sc hi hL (n := 5) (by decide) (by decide)) dL_law_1200 ?_
  refine zi a5 ea5.symm ?_
  refine lv_aload_n hx hb dL_law_1201 rfl (lv_at hl 3 rfl) ?_
  refine lv_iload_n hx hb dL_law_1202 rfl (lv_at hl 0 rfl) ?_
  refine lv_bipush (v := 6) hx hb dL_law_1203 (by decide) ?_
  refine lv_iadd hx hb dL_law_1205 ?_
  refine va_sld hx hb hX hbl hbA hS (z_sc hi hL (n := 6) (by decide) (by decide)) dL_law_1206 ?_
  refine zi a6 ea6.symm ?_
  refine lv_aload_n hx hb dL_law_1207 rfl (lv_at hl 3 rfl) ?_
  refine lv_iload_n hx hb dL_law_1208 rfl (lv_at hl 0 rfl) ?_
  refine lv_bipush (v := 7) hx hb dL_law_1209 (by decide) ?_
  refine lv_iadd hx hb dL_law_1211 ?_
  refine va_sld hx hb hX hbl hbA hS (z_sc hi hL (n := 7) (by decide) (by decide)) dL_law_1212 ?_
  refine zi a7 ea7.symm ?_
  refine lv_aload_n hx hb dL_law_1213 rfl (lv_at hl 3 rfl) ?_
  refine lv_iload_n hx hb dL_law_1214 rfl (lv_at hl 0 rfl) ?_
  refine lv_bipush (v := 8) hx hb dL_law_1215 (by decide) ?_
  refine lv_iadd hx hb dL_law_1217 ?_
  refine va_sld hx hb hX hbl hbA hS (z_sc hi hL (n := 8) (by decide) (by decide)) dL_law_1218 ?_
  refine zi a8 ea8.symm ?_
  refine lv_aload_n hx hb dL_law_1219 rfl (lv_at hl 3 rfl) ?_
  refine lv_iload_n hx hb dL_law_1220 rfl (lv_at hl 0 rfl) ?_
  refine lv_bipush (v := 9) hx hb dL_law_1221 (by decide) ?_
  refine lv_iadd hx hb dL_law_1223 ?_
  refine va_sld hx hb hX hbl hbA hS (z_sc hi hL (n := 9) (by decide) (by decide)) dL_law_1224 ?_
  refine zi a9 ea9.symm ?_
  refine z_iL (wa := wm) (wb := w1) (va_runV (As := [.int a1, .int a2, .int a3, .int a4, .int a5, .int a6, .int a7, .int a8, .int a9]) (rest := []) ⟨hx, hb, hml, hown, hts⟩ (wX11_guess l dC dI kA _ n0 a1 a2 a3 a4 a5 a6 a7 a8 a9 hM0) (cwV 9 hts gL_law_X11_guess rfl rfl rfl ⟨rfl, hdX11_guess⟩ ⟨(Nat.le_of_ble_eq_true rfl), (Nat.le_of_ble_eq_true rfl)⟩) ⟨zPc.blind, MOK_rec hK hM0 (wp_P hP List.perm_append_comm), zPre hK (wl_P (wp_P hP List.perm_append_comm)) (wl_D (wp_D hD List.perm_append_comm))⟩ rfl rfl hl.1 rfl (lv_room (Nat.le_of_ble_eq_true rfl)) dL_law_1225 ⟨hc2, hs2⟩) (wp_P hP List.perm_append_comm) (wp_D hD List.perm_append_comm) hS hA (fun r2 w2 H locs hw2 hP hD hS => ?_)
  have hP := wp_P hP (List.perm_append_comm)
  have hD := wp_D hD (List.perm_append_comm)
  refine lv_pop hx hb dL_law_1228 rfl ?_
  refine lv_goto (tgt := 1730) hx hb dL_law_1229 (by decide) ?_
  refine W.widen (k := cells + 40) (n := slots + 2000) (by omega) (by omega) ?_
  exact kk w1 w2 H locs ls ⟨_, _, _, hw1, hw2⟩ hP hD hS hl
set_option maxHeartbeats 4000000 in
set_option maxRecDepth 100000 in
theorem law_c24 {p : Program} {l : Launch} {e : Env} {s : State} {m : MethodId} {below : List Frame} {meth : Method} {c : Code} {b L : Nat} {xs : Nat → Int32} {dC : Nat → ClassId} {dI : Nat → Nat → Nat} {kA : Nat → ClassId} {aS vS : Nat} {oS : Option Nat} {x0 n0 : Nat} (C0 : lw_At p s m meth c b L xs) (hL : L ≤ 5120) (hK : zK dC dI kA s) (hZ : zStr aS vS oS (fun q : Nat => s.heap.size ≤ q) s s.heap) {i : Int32} (hi : 0 ≤ i.toInt ∧ i.toInt + 10 ≤ L) {cells slots : Nat} (hc : cells + 40 ≤ 600000) (hs : slots + 2000 ≤ 7302249) (kk : ∀ (wx wm : va_W) (H : Heap) (locs : List Loc) (ls : Array Slot), LInv kA x0 n0 wx wm → va_P (dC, dI) vwCl (wx ++ wm) H → va_D (fun q : Nat => s.heap.size ≤ q) (wx ++ wm) → va_S (fun q : Nat => s.heap.size ≤ q) s.heap H locs → lv_has ls 4 [(3, .int i), (2, .ref n0), (1, .ref x0), (0, .ref b)] → W p l e room_1 s m #[Value.ref b] below meth c H locs (cells + 40) (slots + 2000) (lw_Z below #[Value.ref b] s) (F0 m 1730 ls [])) (wx wm : va_W) (H : Heap) (locs : List Loc) (ls : Array Slot) (hI : LInv kA x0 n0 wx wm) (hP : va_P (dC, dI) vwCl (wx ++ wm) H) (hD : va_D (fun q : Nat => s.heap.size ≤ q) (wx ++ wm)) (hS : va_S (fun q : Nat => s.heap.size ≤ q) s.heap H locs) (hl : lv_has ls 4 [(3, .int i), (2, .ref n0), (1, .ref x0), (0, .ref b)]) : W p l e room_1 s m #[Value.ref b] below meth c H locs cells slots (lw_Z below #[Value.ref b] s) (F0 m 1232 ls []) := by
  obtain ⟨hx, hb, hr, hml, hown0, hts0, hX, hbl, hlocks, hgv⟩ := C0
  have hown : s.vm.findClass RL = some m.cls := hown0
  have hts : ∀ w ∈ wsL_law, w.before #[Value.ref b] s = true := fun w h => hts0 w (wsL_law_in w h)
  have hA : ∀ q : Nat, s.heap.size ≤ q → (fun q : Nat => s.heap.size ≤ q) q := fun _ h => h
  have hbA : ¬ (fun q : Nat => s.heap.size ≤ q) b := Nat.not_le.mpr hbl
  obtain ⟨S_, LL, im, hX0, hM0⟩ := hI
  have hgd := MOK4_gd hM0
  have hxt := MOK4_xt hM0
  have hgr := MOK4_gr hM0
  have hgx := MOK4_gx hM0
  have hc1 : cells + 20 ≤ room_1.cells := by show cells + 20 ≤ 600000; omega
  have hs1 : slots + 1000 ≤ room_1.slots := by show slots + 1000 ≤ 7302249; omega
  have hc2 : cells + 20 + 20 ≤ room_1.cells := by show cells + 20 + 20 ≤ 600000; omega
  have hs2 : slots + 1000 + 1000 ≤ room_1.slots := by show slots + 1000 + 1000 ≤ 7302249; omega
  obtain ⟨a1, ea1⟩ : ∃ y : Int32, y = xs (i + 1).toNatClampNeg := ⟨_, rfl⟩
  obtain ⟨a2, ea2⟩ : ∃ y : Int32, y = xs (i + 2).toNatClampNeg := ⟨_, rfl⟩
  obtain ⟨a3, ea3⟩ : ∃ y : Int32, y = xs (i + 3).toNatClampNeg := ⟨_, rfl⟩
  obtain ⟨a4, ea4⟩ : ∃ y : Int32, y = xs (i + 4).toNatClampNeg := ⟨_, rfl⟩
  refine lv_aload_n hx hb dL_law_1232 rfl (lv_at hl 2 rfl) ?_
  refine lv_aload_n hx hb dL_law_1233 rfl (lv_at hl 3 rfl) ?_
  refine lv_iload_n hx hb dL_law_1234 rfl (lv_at hl 0 rfl) ?_
  refine lv_iconst (v := 1) hx hb dL_law_1235 (by decide) ?_
  refine lv_iadd hx hb dL_law_1236 ?_
  refine va_sld hx hb hX hbl hbA hS (z_sc hi hL (n := 1) (by decide) (by decide)) dL_law_1237 ?_
  refine zi a1 ea1.symm ?_
  refine lv_aload_n hx hb dL_law_1238 rfl (lv_at hl 3 rfl) ?_
  refine lv_iload_n hx hb dL_law_1239 rfl (lv_at hl 0 rfl) ?_
  refine lv_iconst (v := 2) hx hb dL_law_1240 (by decide) ?_
  refine lv_iadd hx hb dL_law_1241 ?_
  refine va_sld hx hb hX hbl hbA hS (z_sc hi hL (n := 2) (by decide) (by decide)) dL_law_1242 ?_
  refine zi a2 ea2.symm ?_
  refine lv_aload_n hx hb dL_law_1243 rfl (lv_at hl 3 rfl) ?_
  refine lv_iload_n hx hb dL_law_1244 rfl (lv_at hl 0 rfl) ?_
  refine lv_iconst (v := 3) hx hb dL_law_1245 (by decide) ?_
  refine lv_iadd hx hb dL_law_1246 ?_
  refine va_sld hx hb hX hbl hbA hS (z_sc hi hL (n := 3) (by decide) (by decide)) dL_law_1247 ?_
  refine zi a3 ea3.symm ?_
  refine lv_aload_n hx hb dL_law_1248 rfl (lv_at hl 3 rfl) ?_
  refine lv_iload_n hx hb dL_law_1249 rfl (lv_at hl 0 rfl) ?_
  refine lv_iconst (v := 4) hx hb dL_law_1250 (by decide) ?_
  refine lv_iadd hx hb dL_law_1251 ?_
  refine va_sld hx hb hX hbl hbA hS (z_sc hi hL (n := 4) (by decide) (by decide)) dL_law_1252 ?_
  refine zi a4 ea4.symm ?_
  refine z_iL (wa := wx) (wb := wm) (va_runV (As := [.int a1, .int a2, .int a3, .int a4]) (rest := []) ⟨hx, hb, hml, hown, hts⟩ (wX10_order l dC dI kA _ x0 a1 a2 a3 a4 hX0 hgd hxt) (cwV 4 hts gL_law_X10_order rfl rfl rfl ⟨rfl, hdX10_order⟩ ⟨(Nat.le_of_ble_eq_true rfl), (Nat.le_of_ble_eq_true rfl)⟩) ⟨zPc.blind, XOK_rec hK hX0 hP, zPre hK (wl_P hP) (wl_D hD)⟩ rfl rfl hl.1 rfl (lv_room (Nat.le_of_ble_eq_true rfl)) dL_law_1253 ⟨hc1, hs1⟩) hP hD hS hA (fun r1 w1 H locs hw1 hP hD hS => ?_)
  refine lv_pop hx hb dL_law_1256 rfl ?_
  refine lv_aload_n hx hb dL_law_1257 rfl (lv_at hl 1 rfl) ?_
  refine lv_aload_n hx hb dL_law_1258 rfl (lv_at hl 3 rfl) ?_
  refine lv_iload_n hx hb dL_law_1259 rfl (lv_at hl 0 rfl) ?_
  refine lv_iconst (v := 1) hx hb dL_law_1260 (by decide) ?_
  refine lv_iadd hx hb dL_law_1261 ?_
  refine va_sld hx hb hX hbl hbA hS (z_sc hi hL (n := 1) (by decide) (by decide)) dL_law_1262 ?_
  refine zi a1 ea1.symm ?_
  refine lv_aload_n hx hb dL_law_1263 rfl (lv_at hl 3 rfl) ?_
  refine lv_iload_n hx hb dL_law_1264 rfl (lv_at hl 0 rfl) ?_
  refine lv_iconst (v := 2) hx hb dL_law_1265 (by decide) ?_
  refine lv_iadd hx hb dL_law_1266 ?_
  refine va_sld hx hb hX hbl hbA hS (z_sc hi hL (n := 2) (by decide) (by decide)) dL_law_1267 ?_
  refine zi a2 ea2.symm ?_
  refine lv_aload_n hx hb dL_law_1268 rfl (lv_at hl 3 rfl) ?_
  refine lv_iload_n hx hb dL_law_1269 rfl (lv_at hl 0 rfl) ?_
  refine lv_iconst (v := 3) hx hb dL_law_1270 (by decide) ?_
  refine lv_iadd hx hb dL_law_1271 ?_
  refine va_sld hx hb hX hbl hbA hS (z_sc hi hL (n := 3) (by decide) (by decide)) dL_law_1272 ?_
  refine zi a3 ea3.symm ?_
  refine lv_aload_n hx hb dL_law_1273 rfl (lv_at hl 3 rfl) ?_
  refine lv_iload_n hx hb dL_law_1274 rfl (lv_at hl 0 rfl) ?_
  refine lv_iconst (v := 4) hx hb dL_law_1275 (by decide) ?_
  refine lv_iadd hx hb dL_law_1276 ?_
  refine va_sld hx hb hX hbl hbA hS (z_sc hi hL (n := 4) (by decide) (by decide)) dL_law_1277 ?_
  refine zi a4 ea4.symm ?_
  refine z_iL (wa := wm) (wb := w1) (va_runV (As := [.int a1, .int a2, .int a3, .int a4]) (rest := []) ⟨hx, hb, hml, hown, hts⟩ (wX11_order l dC dI kA _ n0 a1 a2 a3 a4 hM0) (cwV 4 hts gL_law_X11_order rfl rfl rfl ⟨rfl, hdX11_order⟩ ⟨(Nat.le_of_ble_eq_true rfl), (Nat.le_of_ble_eq_true rfl)⟩) ⟨zPc.blind, MOK_rec hK hM0 (wp_P hP List.perm_append_comm), zPre hK (wl_P (wp_P hP List.perm_append_comm)) (wl_D (wp_D hD List.perm_append_comm))⟩ rfl rfl hl.1 rfl (lv_room (Nat.le_of_ble_eq_true rfl)) dL_law_1278 ⟨hc2, hs2⟩) (wp_P hP List.perm_append_comm) (wp_D hD List.perm_append_comm) hS hA (fun r2 w2 H locs hw2 hP hD hS => ?_)
  have hP := wp_P hP (List.perm_append_comm)
  have hD := wp_D hD (List.perm_append_comm)
  refine lv_pop hx hb dL_law_1281 rfl ?_
  refine lv_goto (tgt := 1730) hx hb dL_law_1282 (by decide) ?_
  refine W.widen (k := cells + 40) (n := slots + 2000) (by omega) (by omega) ?_
  exact kk w1 w2 H locs ls ⟨_, _, _, hw1.2, hw2.2⟩ hP hD hS hl
set_option maxHeartbeats 4000000 in
set_option maxRecDepth 100000 in
theorem law_c25 {p : Program} {l : Launch} {e : Env} {s : State} {m : MethodId} {below : List Frame} {meth : Method} {c : Code} {b L : Nat} {xs : Nat → Int32} {dC : Nat → ClassId} {dI : Nat → Nat → Nat} {kA : Nat → ClassId} {aS vS : Nat} {oS : Option Nat} {x0 n0 : Nat} (C0 : lw_At p s m meth c b L xs) (hL : L ≤ 5120) (hK : zK dC dI kA s) (hZ : zStr aS vS oS (fun q : Nat => s.heap.size ≤ q) s s.heap) {i : Int32} (hi : 0 ≤ i.toInt ∧ i.toInt + 10 ≤ L) {cells slots : Nat} (hc : cells + 40 ≤ 600000) (hs : slots + 2000 ≤ 7302249) (kk : ∀ (wx wm : va_W) (H : Heap) (locs : List Loc) (ls : Array Slot), LInv kA x0 n0 wx wm → va_P (dC, dI) vwCl (wx ++ wm) H → va_D (fun q : Nat => s.heap.size ≤ q) (wx ++ wm) → va_S (fun q : Nat => s.heap.size ≤ q) s.heap H locs → lv_has ls 4 [(3, .int i), (2, .ref n0), (1, .ref x0), (0, .ref b)] → W p l e room_1 s m #[Value.ref b] below meth c H locs (cells + 40) (slots + 2000) (lw_Z below #[Value.ref b] s) (F0 m 1730 ls [])) (wx wm : va_W) (H : Heap) (locs : List Loc) (ls : Array Slot) (hI : LInv kA x0 n0 wx wm) (hP : va_P (dC, dI) vwCl (wx ++ wm) H) (hD : va_D (fun q : Nat => s.heap.size ≤ q) (wx ++ wm)) (hS : va_S (fun q : Nat => s.heap.size ≤ q) s.heap H locs) (hl : lv_has ls 4 [(3, .int i), (2, .ref n0), (1, .ref x0), (0, .ref b)]) : W p l e room_1 s m #[Value.ref b] below meth c H locs cells slots (lw_Z below #[Value.ref b] s) (F0 m 1285 ls []) := by
  obtain ⟨hx, hb, hr, hml, hown0, hts0, hX, hbl, hlocks, hgv⟩ := C0
  have hown : s.vm.findClass RL = some m.cls := hown0
  have hts : ∀ w ∈ wsL_law, w.before #[Value.ref b] s = true := fun w h => hts0 w (wsL_law_in w h)
  have hA : ∀ q : Nat, s.heap.size ≤ q → (fun q : Nat => s.heap.size ≤ q) q := fun _ h => h
  have hbA : ¬ (fun q : Nat => s.heap.size ≤ q) b := Nat.not_le.mpr hbl
  obtain ⟨S_, LL, im, hX0, hM0⟩ := hI
  have hgd := MOK4_gd hM0
  have hxt := MOK4_xt hM0
  have hgr := MOK4_gr hM0
  have hgx := MOK4_gx hM0
  have hc1 : cells + 20 ≤ room_1.cells := by show cells + 20 ≤ 600000; omega
  have hs1 : slots + 1000 ≤ room_1.slots := by show slots + 1000 ≤ 7302249; omega
  have hc2 : cells + 20 + 20 ≤ room_1.cells := by show cells + 20 + 20 ≤ 600000; omega
  have hs2 : slots + 1000 + 1000 ≤ room_1.slots := by show slots + 1000 + 1000 ≤ 7302249; omega
  obtain ⟨a1, ea1⟩ : ∃ y : Int32, y = xs (i + 1).toNatClampNeg := ⟨_, rfl⟩
  obtain ⟨a2, ea2⟩ : ∃ y : Int32, y = xs (i + 2).toNatClampNeg := ⟨_, rfl⟩
  obtain ⟨a3, ea3⟩ : ∃ y : Int32, y = xs (i + 3).toNatClampNeg := ⟨_, rfl⟩
  refine lv_aload_n hx hb dL_law_1285 rfl (lv_at hl 2 rfl) ?_
  refine lv_aload_n hx hb dL_law_1286 rfl (lv_at hl 3 rfl) ?_
  refine lv_iload_n hx hb dL_law_1287 rfl (lv_at hl 0 rfl) ?_
  refine lv_iconst (v := 1) hx hb dL_law_1288 (by decide) ?_
  refine lv_iadd hx hb dL_law_1289 ?_
  refine va_sld hx hb hX hbl hbA hS (z_sc hi hL (n := 1) (by decide) (by decide)) dL_law_1290 ?_
  refine zi a1 ea1.symm ?_
  refine lv_aload_n hx hb dL_law_1291 rfl (lv_at hl 3 rfl) ?_
  refine lv_iload_n hx hb dL_law_1292 rfl (lv_at hl 0 rfl) ?_
  refine lv_iconst (v := 2) hx hb dL_law_1293 (by decide) ?_
  refine lv_iadd hx hb dL_law_1294 ?_
  refine va_sld hx hb hX hbl hbA hS (z_sc hi hL (n := 2) (by decide) (by decide)) dL_law_1295 ?_
  refine zi a2 ea2.symm ?_
  refine lv_aload_n hx hb dL_law_1296 rfl (lv_at hl 3 rfl) ?_
  refine lv_iload_n hx hb dL_law_1297 rfl (lv_at hl 0 rfl) ?_
  refine lv_iconst (v := 3) hx hb dL_law_1298 (by decide) ?_
  refine lv_iadd hx hb dL_law_1299 ?_
  refine va_sld hx hb hX hbl hbA hS (z_sc hi hL (n := 3) (by decide) (by decide)) dL_law_1300 ?_
  refine zi a3 ea3.symm ?_
  refine z_iL (wa := wx) (wb := wm) (va_runV (As := [.int a1, .int a2, .int a3]) (rest := []) ⟨hx, hb, hml, hown, hts⟩ (wX10_serves l dC dI kA _ x0 a1 a2 a3 hX0 hgd hxt) (cwV 3 hts gL_law_X10_serves rfl rfl rfl ⟨rfl, hdX10_serves⟩ ⟨(Nat.le_of_ble_eq_true rfl), (Nat.le_of_ble_eq_true rfl)⟩) ⟨zPc.blind, XOK_rec hK hX0 hP, zPre hK (wl_P hP) (wl_D hD)⟩ rfl rfl hl.1 rfl (lv_room (Nat.le_of_ble_eq_true rfl)) dL_law_1301 ⟨hc1, hs1⟩) hP hD hS hA (fun r1 w1 H locs hw1 hP hD hS => ?_)
  refine lv_pop hx hb dL_law_1304 rfl ?_
  refine lv_aload_n hx hb dL_law_1305 rfl (lv_at hl 1 rfl) ?_
  refine lv_aload_n hx hb dL_law_1306 rfl (lv_at hl 3 rfl) ?_
  refine lv_iload_n hx hb dL_law_1307 rfl (lv_at hl 0 rfl) ?_
  refine lv_iconst (v := 1) hx hb dL_law_1308 (by decide) ?_
  refine lv_iadd hx hb dL_law_1309 ?_
  refine va_sld hx hb hX hbl hbA hS (z_sc hi hL (n := 1) (by decide) (by decide)) dL_law_1310 ?_
  refine zi a1 ea1.symm ?_
  refine lv_aload_n hx hb dL_law_1311 rfl (lv_at hl 3 rfl) ?_
  refine lv_iload_n hx hb dL_law_1312 rfl (lv_at hl 0 rfl) ?_
  refine lv_iconst (v := 2) hx hb dL_law_1313 (by decide) ?_
  refine lv_iadd hx hb dL_law_1314 ?_
  refine va_sld hx hb hX hbl hbA hS (z_sc hi hL (n := 2) (by decide) (by decide)) dL_law_1315 ?_
  refine zi a2 ea2.symm ?_
  refine lv_aload_n hx hb dL_law_1316 rfl (lv_at hl 3 rfl) ?_
  refine lv_iload_n hx hb dL_law_1317 rfl (lv_at hl 0 rfl) ?_
  refine lv_iconst (v := 3) hx hb dL_law_1318 (by decide) ?_
  refine lv_iadd hx hb dL_law_1319 ?_
  refine va_sld hx hb hX hbl hbA hS (z_sc hi hL (n := 3) (by decide) (by decide)) dL_law_1320 ?_
  refine zi a3 ea3.symm ?_
  refine z_iL (wa := wm) (wb := w1) (va_runV (As := [.int a1, .int a2, .int a3]) (rest := []) ⟨hx, hb, hml, hown, hts⟩ (wX11_serves l dC dI kA _ n0 a1 a2 a3 hM0) (cwV 3 hts gL_law_X11_serves rfl rfl rfl ⟨rfl, hdX11_serves⟩ ⟨(Nat.le_of_ble_eq_true rfl), (Nat.le_of_ble_eq_true rfl)⟩) ⟨zPc.blind, MOK_rec hK hM0 (wp_P hP List.perm_append_comm), zPre hK (wl_P (wp_P hP List.perm_append_comm)) (wl_D (wp_D hD List.perm_append_comm))⟩ rfl rfl hl.1 rfl (lv_room (Nat.le_of_ble_eq_true rfl)) dL_law_1321 ⟨hc2, hs2⟩) (wp_P hP List.perm_append_comm) (wp_D hD List.perm_append_comm) hS hA (fun r2 w2 H locs hw2 hP hD hS => ?_)
  have hP := wp_P hP (List.perm_append_comm)
  have hD := wp_D hD (List.perm_append_comm)
  refine lv_pop hx hb dL_law_1324 rfl ?_
  refine lv_goto (tgt := 1730) hx hb dL_law_1325 (by decide) ?_
  refine W.widen (k := cells + 40) (n := slots + 2000) (by omega) (by omega) ?_
  exact kk w1 w2 H locs ls ⟨_, _, _, hw1, hw2⟩ hP hD hS hl
set_option maxHeartbeats 4000000 in
set_option maxRecDepth 100000 in
theorem law_c26 {p : Program} {l : Launch} {e : Env} {s : State} {m : MethodId} {below : List Frame} {meth : Method} {c : Code} {b L : Nat} {xs : Nat → Int32} {dC : Nat → ClassId} {dI : Nat → Nat → Nat} {kA : Nat → ClassId} {aS vS : Nat} {oS : Option Nat} {x0 n0 : Nat} (C0 : lw_At p s m meth c b L xs) (hL : L ≤ 5120) (hK : zK dC dI kA s) (hZ : zStr aS vS oS (fun q : Nat => s.heap.size ≤ q) s s.heap) {i : Int32} (hi : 0 ≤ i.toInt ∧ i.toInt + 10 ≤ L) {cells slots : Nat} (hc : cells + 40 ≤ 600000) (hs : slots + 2000 ≤ 7302249) (kk : ∀ (wx wm : va_W) (H : Heap) (locs : List Loc) (ls : Array Slot), LInv kA x0 n0 wx wm → va_P (dC, dI) vwCl (wx ++ wm) H → va_D (fun q : Nat => s.heap.size ≤ q) (wx ++ wm) → va_S (fun q : Nat => s.heap.size ≤ q) s.heap H locs → lv_has ls 4 [(3, .int i), (2, .ref n0), (1, .ref x0), (0, .ref b)] → W p l e room_1 s m #[Value.ref b] below meth c H locs (cells + 40) (slots + 2000) (lw_Z below #[Value.ref b] s) (F0 m 1730 ls [])) (wx wm : va_W) (H : Heap) (locs : List Loc) (ls : Array Slot) (hI : LInv kA x0 n0 wx wm) (hP : va_P (dC, dI) vwCl (wx ++ wm) H) (hD : va_D (fun q : Nat => s.heap.size ≤ q) (wx ++ wm)) (hS : va_S (fun q : Nat => s.heap.size ≤ q) s.heap H locs) (hl : lv_has ls 4 [(3, .int i), (2, .ref n0), (1, .ref x0), (0, .ref b)]) : W p l e room_1 s m #[Value.ref b] below meth c H locs cells slots (lw_Z below #[Value.ref b] s) (F0 m 1328 ls []) := by
  obtain ⟨hx, hb, hr, hml, hown0, hts0, hX, hbl, hlocks, hgv⟩ := C0
  have hown : s.vm.findClass RL = some m.cls := hown0
  have hts : ∀ w ∈ wsL_law, w.before #[Value.ref b] s = true := fun w h => hts0 w (wsL_law_in w h)
  have hA : ∀ q : Nat, s.heap.size ≤ q → (fun q : Nat => s.heap.size ≤ q) q := fun _ h => h
  have hbA : ¬ (fun q : Nat => s.heap.size ≤ q) b := Nat.not_le.mpr hbl
  obtain ⟨S_, LL, im, hX0, hM0⟩ := hI
  have hgd := MOK4_gd hM0
  have hxt := MOK4_xt hM0
  have hgr := MOK4_gr hM0
  have hgx := MOK4_gx hM0
  have hc1 : cells + 20 ≤ room_1.cells := by show cells + 20 ≤ 600000; omega
  have hs1 : slots + 1000 ≤ room_1.slots := by show slots + 1000 ≤ 7302249; omega
  have hc2 : cells + 20 + 20 ≤ room_1.cells := by show cells + 20 + 20 ≤ 600000; omega
  have hs2 : slots + 1000 + 1000 ≤ room_1.slots := by show slots + 1000 + 1000 ≤ 7302249; omega
  obtain ⟨a1, ea1⟩ : ∃ y : Int32, y = xs (i + 1).toNatClampNeg := ⟨_, rfl⟩
  obtain ⟨a2, ea2⟩ : ∃ y : Int32, y = xs (i + 2).toNatClampNeg := ⟨_, rfl⟩
  refine lv_aload_n hx hb dL_law_1328 rfl (lv_at hl 2 rfl) ?_
  refine lv_aload_n hx hb dL_law_1329 rfl (lv_at hl 3 rfl) ?_
  refine lv_iload_n hx hb dL_law_1330 rfl (lv_at hl 0 rfl) ?_
  refine lv_iconst (v := 1) hx hb dL_law_1331 (by decide) ?_
  refine lv_iadd hx hb dL_law_1332 ?_
  refine va_sld hx hb hX hbl hbA hS (z_sc hi hL (n := 1) (by decide) (by decide)) dL_law_1333 ?_
  refine zi a1 ea1.symm ?_
  refine lv_aload_n hx hb dL_law_1334 rfl (lv_at hl 3 rfl) ?_
  refine lv_iload_n hx hb dL_law_1335 rfl (lv_at hl 0 rfl) ?_
  refine lv_iconst (v := 2) hx hb dL_law_1336 (by decide) ?_
  refine lv_iadd hx hb dL_law_1337 ?_
  refine va_sld hx hb hX hbl hbA hS (z_sc hi hL (n := 2) (by decide) (by decide)) dL_law_1338 ?_
  refine zi a2 ea2.symm ?_
  refine z_iL (wa := wx) (wb := wm) (va_runV (As := [.int a1, .int a2]) (rest := []) ⟨hx, hb, hml, hown, hts⟩ (wX10_all l dC dI kA _ x0 a1 a2 hX0 hgd hxt) (cwV 2 hts gL_law_X10_all rfl rfl rfl ⟨rfl, hdX10_all⟩ ⟨(Nat.le_of_ble_eq_true rfl), (Nat.le_of_ble_eq_true rfl)⟩) ⟨zPc.blind, XOK_rec hK hX0 hP, zPre hK (wl_P hP) (wl_D hD)⟩ rfl rfl hl.1 rfl (lv_room (Nat.le_of_ble_eq_true rfl)) dL_law_1339 ⟨hc1, hs1⟩) hP hD hS hA (fun r1 w1 H locs hw1 hP hD hS => ?_)
  refine lv_pop hx hb dL_law_1342 rfl ?_
  refine lv_aload_n hx hb dL_law_1343 rfl (lv_at hl 1 rfl) ?_
  refine lv_aload_n hx hb dL_law_1344 rfl (lv_at hl 3 rfl) ?_
  refine lv_iload_n hx hb dL_law_1345 rfl (lv_at hl 0 rfl) ?_
  refine lv_iconst (v := 1) hx hb dL_law_1346 (by decide) ?_
  refine lv_iadd hx hb dL_law_1347 ?_
  refine va_sld hx hb hX hbl hbA hS (z_sc hi hL (n := 1) (by decide) (by decide)) dL_law_1348 ?_
  refine zi a1 ea1.symm ?_
  refine lv_aload_n hx hb dL_law_1349 rfl (lv_at hl 3 rfl) ?_
  refine lv_iload_n hx hb dL_law_1350 rfl (lv_at hl 0 rfl) ?_
  refine lv_iconst (v := 2) hx hb dL_law_1351 (by decide) ?_
  refine lv_iadd hx hb dL_law_1352 ?_
  refine va_sld hx hb hX hbl hbA hS (z_sc hi hL (n := 2) (by decide) (by decide)) dL_law_1353 ?_
  refine zi a2 ea2.symm ?_
  refine z_iL (wa := wm) (wb := w1) (va_runV (As := [.int a1, .int a2]) (rest := []) ⟨hx, hb, hml, hown, hts⟩ (wX11_all l dC dI kA _ n0 a1 a2 hM0) (cwV 2 hts gL_law_X11_all rfl rfl rfl ⟨rfl, hdX11_all⟩ ⟨(Nat.le_of_ble_eq_true rfl), (Nat.le_of_ble_eq_true rfl)⟩) ⟨zPc.blind, MOK_rec hK hM0 (wp_P hP List.perm_append_comm), zPre hK (wl_P (wp_P hP List.perm_append_comm)) (wl_D (wp_D hD List.perm_append_comm))⟩ rfl rfl hl.1 rfl (lv_room (Nat.le_of_ble_eq_true rfl)) dL_law_1354 ⟨hc2, hs2⟩) (wp_P hP List.perm_append_comm) (wp_D hD List.perm_append_comm) hS hA (fun r2 w2 H locs hw2 hP hD hS => ?_)
  have hP := wp_P hP (List.perm_append_comm)
  have hD := wp_D hD (List.perm_append_comm)
  refine lv_pop hx hb dL_law_1357 rfl ?_
  refine lv_goto (tgt := 1730) hx hb dL_law_1358 (by decide) ?_
  refine W.widen (k := cells + 40) (n := slots + 2000) (by omega) (by omega) ?_
  exact kk w1 w2 H locs ls ⟨_, _, _, hw1, hw2⟩ hP hD hS hl
set_option maxHeartbeats 4000000 in
set_option maxRecDepth 100000 in
theorem law_c27 {p : Program} {l : Launch} {e : Env} {s : State} {m : MethodId} {below : List Frame} {meth : Method} {c : Code} {b L : Nat} {xs : Nat → Int32} {dC : Nat → ClassId} {dI : Nat → Nat → Nat} {kA : Nat → ClassId} {aS vS : Nat} {oS : Option Nat} {x0 n0 : Nat} (C0 : lw_At p s m meth c b L xs) (hL : L ≤ 5120) (hK : zK dC dI kA s) (hZ : zStr aS vS oS (fun q : Nat => s.heap.size ≤ q) s s.heap) {i : Int32} (hi : 0 ≤ i.toInt ∧ i.toInt + 10 ≤ L) {cells slots : Nat} (hc : cells + 40 ≤ 600000) (hs : slots + 2000 ≤ 7302249) (kk : ∀ (wx wm : va_W) (H : Heap) (locs : List Loc) (ls : Array Slot), LInv kA x0 n0 wx wm → va_P (dC, dI) vwCl (wx ++ wm) H → va_D (fun q : Nat => s.heap.size ≤ q) (wx ++ wm) → va_S (fun q : Nat => s.heap.size ≤ q) s.heap H locs → lv_has ls 4 [(3, .int i), (2, .ref n0), (1, .ref x0), (0, .ref b)] → W p l e room_1 s m #[Value.ref b] below meth c H locs (cells + 40) (slots + 2000) (lw_Z below #[Value.ref b] s) (F0 m 1730 ls [])) (wx wm : va_W) (H : Heap) (locs : List Loc) (ls : Array Slot) (hI : LInv kA x0 n0 wx wm) (hP : va_P (dC, dI) vwCl (wx ++ wm) H) (hD : va_D (fun q : Nat => s.heap.size ≤ q) (wx ++ wm)) (hS : va_S (fun q : Nat => s.heap.size ≤ q) s.heap H locs) (hl : lv_has ls 4 [(3, .int i), (2, .ref n0), (1, .ref x0), (0, .ref b)]) : W p l e room_1 s m #[Value.ref b] below meth c H locs cells slots (lw_Z below #[Value.ref b] s) (F0 m 1361 ls []) := by
  obtain ⟨hx, hb, hr, hml, hown0, hts0, hX, hbl, hlocks, hgv⟩ := C0
  have hown : s.vm.findClass RL = some m.cls := hown0
  have hts : ∀ w ∈ wsL_law, w.before #[Value.ref b] s = true := fun w h => hts0 w (wsL_law_in w h)
  have hA : ∀ q : Nat, s.heap.size ≤ q → (fun q : Nat => s.heap.size ≤ q) q := fun _ h => h
  have hbA : ¬ (fun q : Nat => s.heap.size ≤ q) b := Nat.not_le.mpr hbl
  obtain ⟨S_, LL, im, hX0, hM0⟩ := hI
  have hgd := MOK4_gd hM0
  have hxt := MOK4_xt hM0
  have hgr := MOK4_gr hM0
  have hgx := MOK4_gx hM0
  have hc1 : cells + 20 ≤ room_1.cells := by show cells + 20 ≤ 600000; omega
  have hs1 : slots + 1000 ≤ room_1.slots := by show slots + 1000 ≤ 7302249; omega
  have hc2 : cells + 20 + 20 ≤ room_1.cells := by show cells + 20 + 20 ≤ 600000; omega
  have hs2 : slots + 1000 + 1000 ≤ room_1.slots := by show slots + 1000 + 1000 ≤ 7302249; omega
  obtain ⟨a1, ea1⟩ : ∃ y : Int32, y = xs (i + 1).toNatClampNeg := ⟨_, rfl⟩
  obtain ⟨a2, ea2⟩ : ∃ y : Int32, y = xs (i + 2).toNatClampNeg := ⟨_, rfl⟩
  obtain ⟨a3, ea3⟩ : ∃ y : Int32, y = xs (i + 3).toNatClampNeg := ⟨_, rfl⟩
  refine lv_aload_n hx hb dL_law_1361 rfl (lv_at hl 2 rfl) ?_
  refine lv_aload_n hx hb dL_law_1362 rfl (lv_at hl 3 rfl) ?_
  refine lv_iload_n hx hb dL_law_1363 rfl (lv_at hl 0 rfl) ?_
  refine lv_iconst (v := 1) hx hb dL_law_1364 (by decide) ?_
  refine lv_iadd hx hb dL_law_1365 ?_
  refine va_sld hx hb hX hbl hbA hS (z_sc hi hL (n := 1) (by decide) (by decide)) dL_law_1366 ?_
  refine zi a1 ea1.symm ?_
  refine lv_aload_n hx hb dL_law_1367 rfl (lv_at hl 3 rfl) ?_
  refine lv_iload_n hx hb dL_law_1368 rfl (lv_at hl 0 rfl) ?_
  refine lv_iconst (v := 2) hx hb dL_law_1369 (by decide) ?_
  refine lv_iadd hx hb dL_law_1370 ?_
  refine va_sld hx hb hX hbl hbA hS (z_sc hi hL (n := 2) (by decide) (by decide)) dL_law_1371 ?_
  refine zi a2 ea2.symm ?_
  refine lv_aload_n hx hb dL_law_1372 rfl (lv_at hl 3 rfl) ?_
  refine lv_iload_n hx hb dL_law_1373 rfl (lv_at hl 0 rfl) ?_
  refine lv_iconst (v := 3) hx hb dL_law_1374 (by decide) ?_
  refine lv_iadd hx hb dL_law_1375 ?_
  refine va_sld hx hb hX hbl hbA hS (z_sc hi hL (n := 3) (by decide) (by decide)) dL_law_1376 ?_
  refine zi a3 ea3.symm ?_
  refine z_iL (wa := wx) (wb := wm) (va_runV (As := [.int a1, .int a2, .int a3]) (rest := []) ⟨hx, hb, hml, hown, hts⟩ (wX10_feast l dC dI kA _ x0 a1 a2 a3 hX0 hgd hxt) (cwV 3 hts gL_law_X10_feast rfl rfl rfl ⟨rfl, hdX10_feast⟩ ⟨(Nat.le_of_ble_eq_true rfl), (Nat.le_of_ble_eq_true rfl)⟩) ⟨zPc.blind, XOK_rec hK hX0 hP, zPre hK (wl_P hP) (wl_D hD)⟩ rfl rfl hl.1 rfl (lv_room (Nat.le_of_ble_eq_true rfl)) dL_law_1377 ⟨hc1, hs1⟩) hP hD hS hA (fun r1 w1 H locs hw1 hP hD hS => ?_)
  refine lv_pop hx hb dL_law_1380 rfl ?_
  refine lv_aload_n hx hb dL_law_1381 rfl (lv_at hl 1 rfl) ?_
  refine lv_aload_n hx hb dL_law_1382 rfl (lv_at hl 3 rfl) ?_
  refine lv_iload_n hx hb dL_law_1383 rfl (lv_at hl 0 rfl) ?_
  refine lv_iconst (v := 1) hx hb dL_law_1384 (by decide) ?_
  refine lv_iadd hx hb dL_law_1385 ?_
  refine va_sld hx hb hX hbl hbA hS (z_sc hi hL (n := 1) (by decide) (by decide)) dL_law_1386 ?_
  refine zi a1 ea1.symm ?_
  refine lv_aload_n hx hb dL_law_1387 rfl (lv_at hl 3 rfl) ?_
  refine lv_iload_n hx hb dL_law_1388 rfl (lv_at hl 0 rfl) ?_
  refine lv_iconst (v := 2) hx hb dL_law_1389 (by decide) ?_
  refine lv_iadd hx hb dL_law_1390 ?_
  refine va_sld hx hb hX hbl hbA hS (z_sc hi hL (n := 2) (by decide) (by decide)) dL_law_1391 ?_
  refine zi a2 ea2.symm ?_
  refine lv_aload_n hx hb dL_law_1392 rfl (lv_at hl 3 rfl) ?_
  refine lv_iload_n hx hb dL_law_1393 rfl (lv_at hl 0 rfl) ?_
  refine lv_iconst (v := 3) hx hb dL_law_1394 (by decide) ?_
  refine lv_iadd hx hb dL_law_1395 ?_
  refine va_sld hx hb hX hbl hbA hS (z_sc hi hL (n := 3) (by decide) (by decide)) dL_law_1396 ?_
  refine zi a3 ea3.symm ?_
  refine z_iL (wa := wm) (wb := w1) (va_runV (As := [.int a1, .int a2, .int a3]) (rest := []) ⟨hx, hb, hml, hown, hts⟩ (wX11_feast l dC dI kA _ n0 a1 a2 a3 hM0) (cwV 3 hts gL_law_X11_feast rfl rfl rfl ⟨rfl, hdX11_feast⟩ ⟨(Nat.le_of_ble_eq_true rfl), (Nat.le_of_ble_eq_true rfl)⟩) ⟨zPc.blind, MOK_rec hK hM0 (wp_P hP List.perm_append_comm), zPre hK (wl_P (wp_P hP List.perm_append_comm)) (wl_D (wp_D hD List.perm_append_comm))⟩ rfl rfl hl.1 rfl (lv_room (Nat.le_of_ble_eq_true rfl)) dL_law_1397 ⟨hc2, hs2⟩) (wp_P hP List.perm_append_comm) (wp_D hD List.perm_append_comm) hS hA (fun r2 w2 H locs hw2 hP hD hS => ?_)
  have hP := wp_P hP (List.perm_append_comm)
  have hD := wp_D hD (List.perm_append_comm)
  refine lv_pop hx hb dL_law_1400 rfl ?_
  refine lv_goto (tgt := 1730) hx hb dL_law_1401 (by decide) ?_
  refine W.widen (k := cells + 40) (n := slots + 2000) (by omega) (by omega) ?_
  exact kk w1 w2 H locs ls ⟨_, _, _, hw1.2, hw2.2⟩ hP hD hS hl
set_option maxHeartbeats 4000000 in
set_option maxRecDepth 100000 in
theorem law_c28 {p : Program} {l : Launch} {e : Env} {s : State} {m : MethodId} {below : List Frame} {meth : Method} {c : Code} {b L : Nat} {xs : Nat → Int32} {dC : Nat → ClassId} {dI : Nat → Nat → Nat} {kA : Nat → ClassId} {aS vS : Nat} {oS : Option Nat} {x0 n0 : Nat} (C0 : lw_At p s m meth c b L xs) (hL : L ≤ 5120) (hK : zK dC dI kA s) (hZ : zStr aS vS oS (fun q : Nat => s.heap.size ≤ q) s s.heap) {i : Int32} (hi : 0 ≤ i.toInt ∧ i.toInt + 10 ≤ L) {cells slots : Nat} (hc : cells + 40 ≤ 600000) (hs : slots + 2000 ≤ 7302249) (kk : ∀ (wx wm : va_W) (H : Heap) (locs : List Loc) (ls : Array Slot), LInv kA x0 n0 wx wm → va_P (dC, dI) vwCl (wx ++ wm) H → va_D (fun q : Nat => s.heap.size ≤ q) (wx ++ wm) → va_S (fun q : Nat => s.heap.size ≤ q) s.heap H locs → lv_has ls 4 [(3, .int i), (2, .ref n0), (1, .ref x0), (0, .ref b)] → W p l e room_1 s m #[Value.ref b] below meth c H locs (cells + 40) (slots + 2000) (lw_Z below #[Value.ref b] s) (F0 m 1730 ls [])) (wx wm : va_W) (H : Heap) (locs : List Loc) (ls : Array Slot) (hI : LInv kA x0 n0 wx wm) (hP : va_P (dC, dI) vwCl (wx ++ wm) H) (hD : va_D (fun q : Nat => s.heap.size ≤ q) (wx ++ wm)) (hS : va_S (fun q : Nat => s.heap.size ≤ q) s.heap H locs) (hl : lv_has ls 4 [(3, .int i), (2, .ref n0), (1, .ref x0), (0, .ref b)]) : W p l e room_1 s m #[Value.ref b] below meth c H locs cells slots (lw_Z below #[Value.ref b] s) (F0 m 1404 ls []) := by
  obtain ⟨hx, hb, hr, hml, hown0, hts0, hX, hbl, hlocks, hgv⟩ := C0
  have hown : s.vm.findClass RL = some m.cls := hown0
  have hts : ∀ w ∈ wsL_law, w.before #[Value.ref b] s = true := fun w h => hts0 w (wsL_law_in w h)
  have hA : ∀ q : Nat, s.heap.size ≤ q → (fun q : Nat => s.heap.size ≤ q) q := fun _ h => h
  have hbA : ¬ (fun q : Nat => s.heap.size ≤ q) b := Nat.not_le.mpr hbl
  obtain ⟨S_, LL, im, hX0, hM0⟩ := hI
  have hgd := MOK4_gd hM0
  have hxt := MOK4_xt hM0
  have hgr := MOK4_gr hM0
  have hgx := MOK4_gx hM0
  have hc1 : cells + 20 ≤ room_1.cells := by show cells + 20 ≤ 600000; omega
  have hs1 : slots + 1000 ≤ room_1.slots := by show slots + 1000 ≤ 7302249; omega
  have hc2 : cells + 20 + 20 ≤ room_1.cells := by show cells + 20 + 20 ≤ 600000; omega
  have hs2 : slots + 1000 + 1000 ≤ room_1.slots := by show slots + 1000 + 1000 ≤ 7302249; omega
  obtain ⟨a1, ea1⟩ : ∃ y : Int32, y = xs (i + 1).toNatClampNeg := ⟨_, rfl⟩
  obtain ⟨a2, ea2⟩ : ∃ y : Int32, y = xs (i + 2).toNatClampNeg := ⟨_, rfl⟩
  obtain ⟨a3, ea3⟩ : ∃ y : Int32, y = xs (i + 3).toNatClampNeg := ⟨_, rfl⟩
  refine lv_aload_n hx hb dL_law_1404 rfl (lv_at hl 2 rfl) ?_
  refine lv_aload_n hx hb dL_law_1405 rfl (lv_at hl 3 rfl) ?_
  refine lv_iload_n hx hb dL_law_1406 rfl (lv_at hl 0 rfl) ?_
  refine lv_iconst (v := 1) hx hb dL_law_1407 (by decide) ?_
  refine lv_iadd hx hb dL_law_1408 ?_
  refine va_sld hx hb hX hbl hbA hS (z_sc hi hL (n := 1) (by decide) (by decide)) dL_law_1409 ?_
  refine zi a1 ea1.symm ?_
  refine lv_aload_n hx hb dL_law_1410 rfl (lv_at hl 3 rfl) ?_
  refine lv_iload_n hx hb dL_law_1411 rfl (lv_at hl 0 rfl) ?_
  refine lv_iconst (v := 2) hx hb dL_law_1412 (by decide) ?_
  refine lv_iadd hx hb dL_law_1413 ?_
  refine va_sld hx hb hX hbl hbA hS (z_sc hi hL (n := 2) (by decide) (by decide)) dL_law_1414 ?_
  refine zi a2 ea2.symm ?_
  refine lv_aload_n hx hb dL_law_1415 rfl (lv_at hl 3 rfl) ?_
  refine lv_iload_n hx hb dL_law_1416 rfl (lv_at hl 0 rfl) ?_
  refine lv_iconst (v := 3) hx hb dL_law_1417 (by decide) ?_
  refine lv_iadd hx hb dL_law_1418 ?_
  refine va_sld hx hb hX hbl hbA hS (z_sc hi hL (n := 3) (by decide) (by decide)) dL_law_1419 ?_
  refine zi a3 ea3.symm ?_
  refine z_iL (wa := wx) (wb := wm) (va_runV (As := [.int a1, .int a2, .int a3]) (rest := []) ⟨hx, hb, hml, hown, hts⟩ (wX10_enough l dC dI kA _ x0 a1 a2 a3 hX0 hgd hxt) (cwV 3 hts gL_law_X10_enough rfl rfl rfl ⟨rfl, hdX10_enough⟩ ⟨(Nat.le_of_ble_eq_true rfl), (Nat.le_of_ble_eq_true rfl)⟩) ⟨zPc.blind, XOK_rec hK hX0 hP, zPre hK (wl_P hP) (wl_D hD)⟩ rfl rfl hl.1 rfl (lv_room (Nat.le_of_ble_eq_true rfl)) dL_law_1420 ⟨hc1, hs1⟩) hP hD hS hA (fun r1 w1 H locs hw1 hP hD hS => ?_)
  refine lv_pop hx hb dL_law_1423 rfl ?_
  refine lv_aload_n hx hb dL_law_1424 rfl (lv_at hl 1 rfl) ?_
  refine lv_aload_n hx hb dL_law_1425 rfl (lv_at hl 3 rfl) ?_
  refine lv_iload_n hx hb dL_law_1426 rfl (lv_at hl 0 rfl) ?_
  refine lv_iconst (v := 1) hx hb dL_law_1427 (by decide) ?_
  refine lv_iadd hx hb dL_law_1428 ?_
  refine va_sld hx hb hX hbl hbA hS (z_sc hi hL (n := 1) (by decide) (by decide)) dL_law_1429 ?_
  refine zi a1 ea1.symm ?_
  refine lv_aload_n hx hb dL_law_1430 rfl (lv_at hl 3 rfl) ?_
  refine lv_iload_n hx hb dL_law_1431 rfl (lv_at hl 0 rfl) ?_
  refine lv_iconst (v := 2) hx hb dL_law_1432 (by decide) ?_
  refine lv_iadd hx hb dL_law_1433 ?_
  refine va_sld hx hb hX hbl hbA hS (z_sc hi hL (n := 2) (by decide) (by decide)) dL_law_1434 ?_
  refine zi a2 ea2.symm ?_
  refine lv_aload_n hx hb dL_law_1435 rfl (lv_at hl 3 rfl) ?_
  refine lv_iload_n hx hb dL_law_1436 rfl (lv_at hl 0 rfl) ?_
  refine lv_iconst (v := 3) hx hb dL_law_1437 (by decide) ?_
  refine lv_iadd hx hb dL_law_1438 ?_
  refine va_sld hx hb hX hbl hbA hS (z_sc hi hL (n := 3) (by decide) (by decide)) dL_law_1439 ?_
  refine zi a3 ea3.symm ?_
  refine z_iL (wa := wm) (wb := w1) (va_runV (As := [.int a1, .int a2, .int a3]) (rest := []) ⟨hx, hb, hml, hown, hts⟩ (wX11_enough l dC dI kA _ n0 a1 a2 a3 hM0) (cwV 3 hts gL_law_X11_enough rfl rfl rfl ⟨rfl, hdX11_enough⟩ ⟨(Nat.le_of_ble_eq_true rfl), (Nat.le_of_ble_eq_true rfl)⟩) ⟨zPc.blind, MOK_rec hK hM0 (wp_P hP List.perm_append_comm), zPre hK (wl_P (wp_P hP List.perm_append_comm)) (wl_D (wp_D hD List.perm_append_comm))⟩ rfl rfl hl.1 rfl (lv_room (Nat.le_of_ble_eq_true rfl)) dL_law_1440 ⟨hc2, hs2⟩) (wp_P hP List.perm_append_comm) (wp_D hD List.perm_append_comm) hS hA (fun r2 w2 H locs hw2 hP hD hS => ?_)
  have hP := wp_P hP (List.perm_append_comm)
  have hD := wp_D hD (List.perm_append_comm)
  refine lv_pop hx hb dL_law_1443 rfl ?_
  refine lv_goto (tgt := 1730) hx hb dL_law_1444 (by decide) ?_
  refine W.widen (k := cells + 40) (n := slots + 2000) (by omega) (by omega) ?_
  exact kk w1 w2 H locs ls ⟨_, _, _, hw1, hw2⟩ hP hD hS hl
set_option maxHeartbeats 4000000 in
set_option maxRecDepth 100000 in
theorem law_c29 {p : Program} {l : Launch} {e : Env} {s : State} {m : MethodId} {below : List Frame} {meth : Method} {c : Code} {b L : Nat} {xs : Nat → Int32} {dC : Nat → ClassId} {dI : Nat → Nat → Nat} {kA : Nat → ClassId} {aS vS : Nat} {oS : Option Nat} {x0 n0 : Nat} (C0 : lw_At p s m meth c b L xs) (hL : L ≤ 5120) (hK : zK dC dI kA s) (hZ : zStr aS vS oS (fun q : Nat => s.heap.size ≤ q) s s.heap) {i : Int32} (hi : 0 ≤ i.toInt ∧ i.toInt + 10 ≤ L) {cells slots : Nat} (hc : cells + 40 ≤ 600000) (hs : slots + 2000 ≤ 7302249) (kk : ∀ (wx wm : va_W) (H : Heap) (locs : List Loc) (ls : Array Slot), LInv kA x0 n0 wx wm → va_P (dC, dI) vwCl (wx ++ wm) H → va_D (fun q : Nat => s.heap.size ≤ q) (wx ++ wm) → va_S (fun q : Nat => s.heap.size ≤ q) s.heap H locs → lv_has ls 4 [(3, .int i), (2, .ref n0), (1, .ref x0), (0, .ref b)] → W p l e room_1 s m #[Value.ref b] below meth c H locs (cells + 40) (slots + 2000) (lw_Z below #[Value.ref b] s) (F0 m 1730 ls [])) (wx wm : va_W) (H : Heap) (locs : List Loc) (ls : Array Slot) (hI : LInv kA x0 n0 wx wm) (hP : va_P (dC, dI) vwCl (wx ++ wm) H) (hD : va_D (fun q : Nat => s.heap.size ≤ q) (wx ++ wm)) (hS : va_S (fun q : Nat => s.heap.size ≤ q) s.heap H locs) (hl : lv_has ls 4 [(3, .int i), (2, .ref n0), (1, .ref x0), (0, .ref b)]) : W p l e room_1 s m #[Value.ref b] below meth c H locs cells slots (lw_Z below #[Value.ref b] s) (F0 m 1447 ls []) := by
  obtain ⟨hx, hb, hr, hml, hown0, hts0, hX, hbl, hlocks, hgv⟩ := C0
  have hown : s.vm.findClass RL = some m.cls := hown0
  have hts : ∀ w ∈ wsL_law, w.before #[Value.ref b] s = true := fun w h => hts0 w (wsL_law_in w h)
  have hA : ∀ q : Nat, s.heap.size ≤ q → (fun q : Nat => s.heap.size ≤ q) q := fun _ h => h
  have hbA : ¬ (fun q : Nat => s.heap.size ≤ q) b := Nat.not_le.mpr hbl
  obtain ⟨S_, LL, im, hX0, hM0⟩ := hI
  have hgd := MOK4_gd hM0
  have hxt := MOK4_xt hM0
  have hgr := MOK4_gr hM0
  have hgx := MOK4_gx hM0
  have hc1 : cells + 20 ≤ room_1.cells := by show cells + 20 ≤ 600000; omega
  have hs1 : slots + 1000 ≤ room_1.slots := by show slots + 1000 ≤ 7302249; omega
  have hc2 : cells + 20 + 20 ≤ room_1.cells := by show cells + 20 + 20 ≤ 600000; omega
  have hs2 : slots + 1000 + 1000 ≤ room_1.slots := by show slots + 1000 + 1000 ≤ 7302249; omega
  obtain ⟨a1, ea1⟩ : ∃ y : Int32, y = xs (i + 1).toNatClampNeg := ⟨_, rfl⟩
  obtain ⟨a2, ea2⟩ : ∃ y : Int32, y = xs (i + 2).toNatClampNeg := ⟨_, rfl⟩
  refine lv_aload_n hx hb dL_law_1447 rfl (lv_at hl 2 rfl) ?_
  refine lv_aload_n hx hb dL_law_1448 rfl (lv_at hl 3 rfl) ?_
  refine lv_iload_n hx hb dL_law_1449 rfl (lv_at hl 0 rfl) ?_
  refine lv_iconst (v := 1) hx hb dL_law_1450 (by decide) ?_
  refine lv_iadd hx hb dL_law_1451 ?_
  refine va_sld hx hb hX hbl hbA hS (z_sc hi hL (n := 1) (by decide) (by decide)) dL_law_1452 ?_
  refine zi a1 ea1.symm ?_
  refine lv_aload_n hx hb dL_law_1453 rfl (lv_at hl 3 rfl) ?_
  refine lv_iload_n hx hb dL_law_1454 rfl (lv_at hl 0 rfl) ?_
  refine lv_iconst (v := 2) hx hb dL_law_1455 (by decide) ?_
  refine lv_iadd hx hb dL_law_1456 ?_
  refine va_sld hx hb hX hbl hbA hS (z_sc hi hL (n := 2) (by decide) (by decide)) dL_law_1457 ?_
  refine zi a2 ea2.symm ?_
  refine z_iL (wa := wx) (wb := wm) (va_runV (As := [.int a1, .int a2]) (rest := []) ⟨hx, hb, hml, hown, hts⟩ (wX10_least l dC dI kA _ x0 a1 a2 hX0 hgd hxt) (cwV 2 hts gL_law_X10_least rfl rfl rfl ⟨rfl, hdX10_least⟩ ⟨(Nat.le_of_ble_eq_true rfl), (Nat.le_of_ble_eq_true rfl)⟩) ⟨zPc.blind, XOK_rec hK hX0 hP, zPre hK (wl_P hP) (wl_D hD)⟩ rfl rfl hl.1 rfl (lv_room (Nat.le_of_ble_eq_true rfl)) dL_law_1458 ⟨hc1, hs1⟩) hP hD hS hA (fun r1 w1 H locs hw1 hP hD hS => ?_)
  refine lv_pop hx hb dL_law_1461 rfl ?_
  refine lv_aload_n hx hb dL_law_1462 rfl (lv_at hl 1 rfl) ?_
  refine lv_aload_n hx hb dL_law_1463 rfl (lv_at hl 3 rfl) ?_
  refine lv_iload_n hx hb dL_law_1464 rfl (lv_at hl 0 rfl) ?_
  refine lv_iconst (v := 1) hx hb dL_law_1465 (by decide) ?_
  refine lv_iadd hx hb dL_law_1466 ?_
  refine va_sld hx hb hX hbl hbA hS (z_sc hi hL (n := 1) (by decide) (by decide)) dL_law_1467 ?_
  refine zi a1 ea1.symm ?_
  refine lv_aload_n hx hb dL_law_1468 rfl (lv_at hl 3 rfl) ?_
  refine lv_iload_n hx hb dL_law_1469 rfl (lv_at hl 0 rfl) ?_
  refine lv_iconst (v := 2) hx hb dL_law_1470 (by decide) ?_
  refine lv_iadd hx hb dL_law_1471 ?_
  refine va_sld hx hb hX hbl hbA hS (z_sc hi hL (n := 2) (by decide) (by decide)) dL_law_1472 ?_
  refine zi a2 ea2.symm ?_
  refine z_iL (wa := wm) (wb := w1) (va_runV (As := [.int a1, .int a2]) (rest := []) ⟨hx, hb, hml, hown, hts⟩ (wX11_least l dC dI kA _ n0 a1 a2 hM0) (cwV 2 hts gL_law_X11_least rfl rfl rfl ⟨rfl, hdX11_least⟩ ⟨(Nat.le_of_ble_eq_true rfl), (Nat.le_of_ble_eq_true rfl)⟩) ⟨zPc.blind, MOK_rec hK hM0 (wp_P hP List.perm_append_comm), zPre hK (wl_P (wp_P hP List.perm_append_comm)) (wl_D (wp_D hD List.perm_append_comm))⟩ rfl rfl hl.1 rfl (lv_room (Nat.le_of_ble_eq_true rfl)) dL_law_1473 ⟨hc2, hs2⟩) (wp_P hP List.perm_append_comm) (wp_D hD List.perm_append_comm) hS hA (fun r2 w2 H locs hw2 hP hD hS => ?_)
  have hP := wp_P hP (List.perm_append_comm)
  have hD := wp_D hD (List.perm_append_comm)
  refine lv_pop hx hb dL_law_1476 rfl ?_
  refine lv_goto (tgt := 1730) hx hb dL_law_1477 (by decide) ?_
  refine W.widen (k := cells + 40) (n := slots + 2000) (by omega) (by omega) ?_
  exact kk w1 w2 H locs ls ⟨_, _, _, hw1, hw2⟩ hP hD hS hl
set_option maxHeartbeats 4000000 in
set_option maxRecDepth 100000 in
theorem law_c30 {p : Program} {l : Launch} {e : Env} {s : State} {m : MethodId} {below : List Frame} {meth : Method} {c : Code} {b L : Nat} {xs : Nat → Int32} {dC : Nat → ClassId} {dI : Nat → Nat → Nat} {kA : Nat → ClassId} {aS vS : Nat} {oS : Option Nat} {x0 n0 : Nat} (C0 : lw_At p s m meth c b L xs) (hL : L ≤ 5120) (hK : zK dC dI kA s) (hZ : zStr aS vS oS (fun q : Nat => s.heap.size ≤ q) s s.heap) {i : Int32} (hi : 0 ≤ i.toInt ∧ i.toInt + 10 ≤ L) {cells slots : Nat} (hc : cells + 40 ≤ 600000) (hs : slots + 2000 ≤ 7302249) (kk : ∀ (wx wm : va_W) (H : Heap) (locs : List Loc) (ls : Array Slot), LInv kA x0 n0 wx wm → va_P (dC, dI) vwCl (wx ++ wm) H → va_D (fun q : Nat => s.heap.size ≤ q) (wx ++ wm) → va_S (fun q : Nat => s.heap.size ≤ q) s.heap H locs → lv_has ls 4 [(3, .int i), (2, .ref n0), (1, .ref x0), (0, .ref b)] → W p l e room_1 s m #[Value.ref b] below meth c H locs (cells + 40) (slots + 2000) (lw_Z below #[Value.ref b] s) (F0 m 1730 ls [])) (wx wm : va_W) (H : Heap) (locs : List Loc) (ls : Array Slot) (hI : LInv kA x0 n0 wx wm) (hP : va_P (dC, dI) vwCl (wx ++ wm) H) (hD : va_D (fun q : Nat => s.heap.size ≤ q) (wx ++ wm)) (hS : va_S (fun q : Nat => s.heap.size ≤ q) s.heap H locs) (hl : lv_has ls 4 [(3, .int i), (2, .ref n0), (1, .ref x0), (0, .ref b)]) : W p l e room_1 s m #[Value.ref b] below meth c H locs cells slots (lw_Z below #[Value.ref b] s) (F0 m 1480 ls []) := by
  obtain ⟨hx, hb, hr, hml, hown0, hts0, hX, hbl, hlocks, hgv⟩ := C0
  have hown : s.vm.findClass RL = some m.cls := hown0
  have hts : ∀ w ∈ wsL_law, w.before #[Value.ref b] s = true := fun w h => hts0 w (wsL_law_in w h)
  have hA : ∀ q : Nat, s.heap.size ≤ q → (fun q : Nat => s.heap.size ≤ q) q := fun _ h => h
  have hbA : ¬ (fun q : Nat => s.heap.size ≤ q) b := Nat.not_le.mpr hbl
  obtain ⟨S_, LL, im, hX0, hM0⟩ := hI
  have hgd := MOK4_gd hM0
  have hxt := MOK4_xt hM0
  have hgr := MOK4_gr hM0
  have hgx := MOK4_gx hM0
  have hc1 : cells + 20 ≤ room_1.cells := by show cells + 20 ≤ 600000; omega
  have hs1 : slots + 1000 ≤ room_1.slots := by show slots + 1000 ≤ 7302249; omega
  have hc2 : cells + 20 + 20 ≤ room_1.cells := by show cells + 20 + 20 ≤ 600000; omega
  have hs2 : slots + 1000 + 1000 ≤ room_1.slots := by show slots + 1000 + 1000 ≤ 7302249; omega
  obtain ⟨a1, ea1⟩ : ∃ y : Int32, y = xs (i + 1).toNatClampNeg := ⟨_, rfl⟩
  obtain ⟨a2, ea2⟩ : ∃ y : Int32, y = xs (i + 2).toNatClampNeg := ⟨_, rfl⟩
  obtain ⟨a3, ea3⟩ : ∃ y : Int32, y = xs (i + 3).toNatClampNeg := ⟨_, rfl⟩
  obtain ⟨a4, ea4⟩ : ∃ y : Int32, y = xs (i + 4).toNatClampNeg := ⟨_, rfl⟩
  obtain ⟨a5, ea5⟩ : ∃ y : Int32, y = xs (i + 5).toNatClampNeg := ⟨_, rfl⟩
  refine lv_aload_n hx hb dL_law_1480 rfl (lv_at hl 2 rfl) ?_
  refine lv_aload_n hx hb dL_law_1481 rfl (lv_at hl 3 rfl) ?_
  refine lv_iload_n hx hb dL_law_1482 rfl (lv_at hl 0 rfl) ?_
  refine lv_iconst (v := 1) hx hb dL_law_1483 (by decide) ?_
  refine lv_iadd hx hb dL_law_1484 ?_
  refine va_sld hx hb hX hbl hbA hS (z_sc hi hL (n := 1) (by decide) (by decide)) dL_law_1485 ?_
  refine zi a1 ea1.symm ?_
  refine lv_aload_n hx hb dL_law_1486 rfl (lv_at hl 3 rfl) ?_
  refine lv_iload_n hx hb dL_law_1487 rfl (lv_at hl 0 rfl) ?_
  refine lv_iconst (v := 2) hx hb dL_law_1488 (by decide) ?_
  refine lv_iadd hx hb dL_law_1489 ?_
  refine va_sld hx hb hX hbl hbA hS (z_sc hi hL (n := 2) (by decide) (by decide)) dL_law_1490 ?_
  refine zi a2 ea2.symm ?_
  refine lv_aload_n hx hb dL_law_1491 rfl (lv_at hl 3 rfl) ?_
  refine lv_iload_n hx hb dL_law_1492 rfl (lv_at hl 0 rfl) ?_
  refine lv_iconst (v := 3) hx hb dL_law_1493 (by decide) ?_
  refine lv_iadd hx hb dL_law_1494 ?_
  refine va_sld hx hb hX hbl hbA hS (z_sc hi hL (n := 3) (by decide) (by decide)) dL_law_1495 ?_
  refine zi a3 ea3.symm ?_
  refine lv_aload_n hx hb dL_law_1496 rfl (lv_at hl 3 rfl) ?_
  refine lv_iload_n hx hb dL_law_1497 rfl (lv_at hl 0 rfl) ?_
  refine lv_iconst (v := 4) hx hb dL_law_1498 (by decide) ?_
  refine lv_iadd hx hb dL_law_1499 ?_
  refine va_sld hx hb hX hbl hbA hS (z_sc hi hL (n := 4) (by decide) (by decide)) dL_law_1500 ?_
  refine zi a4 ea4.symm ?_
  refine lv_aload_n hx hb dL_law_1501 rfl (lv_at hl 3 rfl) ?_
  refine lv_iload_n hx hb dL_law_1502 rfl (lv_at hl 0 rfl) ?_
  refine lv_iconst (v := 5) hx hb dL_law_1503 (by decide) ?_
  refine lv_iadd hx hb dL_law_1504 ?_
  refine va_sld hx hb hX hbl hbA hS (z_sc hi hL (n := 5) (by decide) (by decide)) dL_law_1505 ?_
  refine zi a5 ea5.symm ?_
  refine z_iL (wa := wx) (wb := wm) (va_runV (As := [.int a1, .int a2, .int a3, .int a4, .int a5]) (rest := []) ⟨hx, hb, hml, hown, hts⟩ (wX10_nights l dC dI kA _ x0 a1 a2 a3 a4 a5 hX0 hgd hxt) (cwV 5 hts gL_law_X10_nights rfl rfl rfl ⟨rfl, hdX10_nights⟩ ⟨(Nat.le_of_ble_eq_true rfl), (Nat.le_of_ble_eq_true rfl)⟩) ⟨zPc.blind, XOK_rec hK hX0 hP, zPre hK (wl_P hP) (wl_D hD)⟩ rfl rfl hl.1 rfl (lv_room (Nat.le_of_ble_eq_true rfl)) dL_law_1506 ⟨hc1, hs1⟩) hP hD hS hA (fun r1 w1 H locs hw1 hP hD hS => ?_)
  refine lv_pop hx hb dL_law_1509 rfl ?_
  refine lv_aload_n hx hb dL_law_1510 rfl (lv_at hl 1 rfl) ?_
  refine lv_aload_n hx hb dL_law_1511 rfl (lv_at hl 3 rfl) ?_
  refine lv_iload_n hx hb dL_law_1512 rfl (lv_at hl 0 rfl) ?_
  refine lv_iconst (v := 1) hx hb dL_law_1513 (by decide) ?_
  refine lv_iadd hx hb dL_law_1514 ?_
  refine va_sld hx hb hX hbl hbA hS (z_sc hi hL (n := 1) (by decide) (by decide)) dL_law_1515 ?_
  refine zi a1 ea1.symm ?_
  refine lv_aload_n hx hb dL_law_1516 rfl (lv_at hl 3 rfl) ?_
  refine lv_iload_n hx hb dL_law_1517 rfl (lv_at hl 0 rfl) ?_
  refine lv_iconst (v := 2) hx hb dL_law_1518 (by decide) ?_
  refine lv_iadd hx hb dL_law_1519 ?_
  refine va_sld hx hb hX hbl hbA hS (z_sc hi hL (n := 2) (by decide) (by decide)) dL_law_1520 ?_
  refine zi a2 ea2.symm ?_
  refine lv_aload_n hx hb dL_law_1521 rfl (lv_at hl 3 rfl) ?_
  refine lv_iload_n hx hb dL_law_1522 rfl (lv_at hl 0 rfl) ?_
  refine lv_iconst (v := 3) hx hb dL_law_1523 (by decide) ?_
  refine lv_iadd hx hb dL_law_1524 ?_
  refine va_sld hx hb hX hbl hbA hS (z_sc hi hL (n := 3) (by decide) (by decide)) dL_law_1525 ?_
  refine zi a3 ea3.symm ?_
  refine lv_aload_n hx hb dL_law_1526 rfl (lv_at hl 3 rfl) ?_
  refine lv_iload_n hx hb dL_law_1527 rfl (lv_at hl 0 rfl) ?_
  refine lv_iconst (v := 4) hx hb dL_law_1528 (by decide) ?_
  refine lv_iadd hx hb dL_law_1529 ?_
  refine va_sld hx hb hX hbl hbA hS (z_sc hi hL (n := 4) (by decide) (by decide)) dL_law_1530 ?_
  refine zi a4 ea4.symm ?_
  refine lv_aload_n hx hb dL_law_1531 rfl (lv_at hl 3 rfl) ?_
  refine lv_iload_n hx hb dL_law_1532 rfl (lv_at hl 0 rfl) ?_
  refine lv_iconst (v := 5) hx hb dL_law_1533 (by decide) ?_
  refine lv_iadd hx hb dL_law_1534 ?_
  refine va_sld hx hb hX hbl hbA hS (z_sc hi hL (n := 5) (by decide) (by decide)) dL_law_1535 ?_
  refine zi a5 ea5.symm ?_
  refine z_iL (wa := wm) (wb := w1) (va_runV (As := [.int a1, .int a2, .int a3, .int a4, .int a5]) (rest := []) ⟨hx, hb, hml, hown, hts⟩ (wX11_nights l dC dI kA _ n0 a1 a2 a3 a4 a5 hM0) (cwV 5 hts gL_law_X11_nights rfl rfl rfl ⟨rfl, hdX11_nights⟩ ⟨(Nat.le_of_ble_eq_true rfl), (Nat.le_of_ble_eq_true rfl)⟩) ⟨zPc.blind, MOK_rec hK hM0 (wp_P hP List.perm_append_comm), zPre hK (wl_P (wp_P hP List.perm_append_comm)) (wl_D (wp_D hD List.perm_append_comm))⟩ rfl rfl hl.1 rfl (lv_room (Nat.le_of_ble_eq_true rfl)) dL_law_1536 ⟨hc2, hs2⟩) (wp_P hP List.perm_append_comm) (wp_D hD List.perm_append_comm) hS hA (fun r2 w2 H locs hw2 hP hD hS => ?_)
  have hP := wp_P hP (List.perm_append_comm)
  have hD := wp_D hD (List.perm_append_comm)
  refine lv_pop hx hb dL_law_1539 rfl ?_
  refine lv_goto (tgt := 1730) hx hb dL_law_1540 (by decide) ?_
  refine W.widen (k := cells + 40) (n := slots + 2000) (by omega) (by omega) ?_
  exact kk w1 w2 H locs ls ⟨_, _, _, hw1, hw2⟩ hP hD hS hl
set_option maxHeartbeats 4000000 in
set_option maxRecDepth 100000 in
theorem law_c31 {p : Program} {l : Launch} {e : Env} {s : State} {m : MethodId} {below : List Frame} {meth : Method} {c : Code} {b L : Nat} {xs : Nat → Int32} {dC : Nat → ClassId} {dI : Nat → Nat → Nat} {kA : Nat → ClassId} {aS vS : Nat} {oS : Option Nat} {x0 n0 : Nat} (C0 : lw_At p s m meth c b L xs) (hL : L ≤ 5120) (hK : zK dC dI kA s) (hZ : zStr aS vS oS (fun q : Nat => s.heap.size ≤ q) s s.heap) {i : Int32} (hi : 0 ≤ i.toInt ∧ i.toInt + 10 ≤ L) {cells slots : Nat} (hc : cells + 40 ≤ 600000) (hs : slots + 2000 ≤ 7302249) (kk : ∀ (wx wm : va_W) (H : Heap) (locs : List Loc) (ls : Array Slot), LInv kA x0 n0 wx wm → va_P (dC, dI) vwCl (wx ++ wm) H → va_D (fun q : Nat => s.heap.size ≤ q) (wx ++ wm) → va_S (fun q : Nat => s.heap.size ≤ q) s.heap H locs → lv_has ls 4 [(3, .int i), (2, .ref n0), (1, .ref x0), (0, .ref b)] → W p l e room_1 s m #[Value.ref b] below meth c H locs (cells + 40) (slots + 2000) (lw_Z below #[Value.ref b] s) (F0 m 1730 ls [])) (wx wm : va_W) (H : Heap) (locs : List Loc) (ls : Array Slot) (hI : LInv kA x0 n0 wx wm) (hP : va_P (dC, dI) vwCl (wx ++ wm) H) (hD : va_D (fun q : Nat => s.heap.size ≤ q) (wx ++ wm)) (hS : va_S (fun q : Nat => s.heap.size ≤ q) s.heap H locs) (hl : lv_has ls 4 [(3, .int i), (2, .ref n0), (1, .ref x0), (0, .ref b)]) : W p l e room_1 s m #[Value.ref b] below meth c H locs cells slots (lw_Z below #[Value.ref b] s) (F0 m 1543 ls []) := by
  obtain ⟨hx, hb, hr, hml, hown0, hts0, hX, hbl, hlocks, hgv⟩ := C0
  have hown : s.vm.findClass RL = some m.cls := hown0
  have hts : ∀ w ∈ wsL_law, w.before #[Value.ref b] s = true := fun w h => hts0 w (wsL_law_in w h)
  have hA : ∀ q : Nat, s.heap.size ≤ q → (fun q : Nat => s.heap.size ≤ q) q := fun _ h => h
  have hbA : ¬ (fun q : Nat => s.heap.size ≤ q) b := Nat.not_le.mpr hbl
  obtain ⟨S_, LL, im, hX0, hM0⟩ := hI
  have hgd := MOK4_gd hM0
  have hxt := MOK4_xt hM0
  have hgr := MOK4_gr hM0
  have hgx := MOK4_gx hM0
  have hc1 : cells + 20 ≤ room_1.cells := by show cells + 20 ≤ 600000; omega
  have hs1 : slots + 1000 ≤ room_1.slots := by show slots + 1000 ≤ 7302249; omega
  have hc2 : cells + 20 + 20 ≤ room_1.cells := by show cells + 20 + 20 ≤ 600000; omega
  have hs2 : slots + 1000 + 1000 ≤ room_1.slots := by show slots + 1000 + 1000 ≤ 7302249; omega
  obtain ⟨a1, ea1⟩ : ∃ y : Int32, y = xs (i + 1).toNatClampNeg := ⟨_, rfl⟩
  obtain ⟨a2, ea2⟩ : ∃ y : Int32, y = xs (i + 2).toNatClampNeg := ⟨_, rfl⟩
  obtain ⟨a3, ea3⟩ : ∃ y : Int32, y = xs (i + 3).toNatClampNeg := ⟨_, rfl⟩
  obtain ⟨a4, ea4⟩ : ∃ y : Int32, y = xs (i + 4).toNatClampNeg := ⟨_, rfl⟩
  obtain ⟨a5, ea5⟩ : ∃ y : Int32, y = xs (i + 5).toNatClampNeg := ⟨_, rfl⟩
  obtain ⟨a6, ea6⟩ : ∃ y : Int32, y = xs (i + 6).toNatClampNeg := ⟨_, rfl⟩
  refine lv_aload_n hx hb dL_law_1543 rfl (lv_at hl 2 rfl) ?_
  refine lv_aload_n hx hb dL_law_1544 rfl (lv_at hl 3 rfl) ?_
  refine lv_iload_n hx hb dL_law_1545 rfl (lv_at hl 0 rfl) ?_
  refine lv_iconst (v := 1) hx hb dL_law_1546 (by decide) ?_
  refine lv_iadd hx hb dL_law_1547 ?_
  refine va_sld hx hb hX hbl hbA hS (z_sc hi hL (n := 1) (by decide) (by decide)) dL_law_1548 ?_
  refine zi a1 ea1.symm ?_
  refine lv_aload_n hx hb dL_law_1549 rfl (lv_at hl 3 rfl) ?_
  refine lv_iload_n hx hb dL_law_1550 rfl (lv_at hl 0 rfl) ?_
  refine lv_iconst (v := 2) hx hb dL_law_1551 (by decide) ?_
  refine lv_iadd hx hb dL_law_1552 ?_
  refine va_sld hx hb hX hbl hbA hS (z_sc hi hL (n := 2) (by decide) (by decide)) dL_law_1553 ?_
  refine zi a2 ea2.symm ?_
  refine lv_aload_n hx hb dL_law_1554 rfl (lv_at hl 3 rfl) ?_
  refine lv_iload_n hx hb dL_law_1555 rfl (lv_at hl 0 rfl) ?_
  refine lv_iconst (v := 3) hx hb dL_law_1556 (by decide) ?_
  refine lv_iadd hx hb dL_law_1557 ?_
  refine va_sld hx hb hX hbl hbA hS (z_sc hi hL (n := 3) (by decide) (by decide)) dL_law_1558 ?_
  refine zi a3 ea3.symm ?_
  refine lv_aload_n hx hb dL_law_1559 rfl (lv_at hl 3 rfl) ?_
  refine lv_iload_n hx hb dL_law_1560 rfl (lv_at hl 0 rfl) ?_
  refine lv_iconst (v := 4) hx hb dL_law_1561 (by decide) ?_
  refine lv_iadd hx hb dL_law_1562 ?_
  refine va_sld hx hb hX hbl hbA hS (z_sc hi hL (n := 4) (by decide) (by decide)) dL_law_1563 ?_
  refine zi a4 ea4.symm ?_
  refine lv_aload_n hx hb dL_law_1564 rfl (lv_at hl 3 rfl) ?_
  refine lv_iload_n hx hb dL_law_1565 rfl (lv_at hl 0 rfl) ?_
  refine lv_iconst (v := 5) hx hb dL_law_1566 (by decide) ?_
  refine lv_iadd hx hb dL_law_1567 ?_
  refine va_sld hx hb hX hbl hbA hS (z_sc hi hL (n := 5) (by decide) (by decide)) dL_law_1568 ?_
  refine zi a5 ea5.symm ?_
  refine lv_aload_n hx hb dL_law_1569 rfl (lv_at hl 3 rfl) ?_
  refine lv_iload_n hx hb dL_law_1570 rfl (lv_at hl 0 rfl) ?_
  refine lv_bipush (v := 6) hx hb dL_law_1571 (by decide) ?_
  refine lv_iadd hx hb dL_law_1573 ?_
  refine va_sld hx hb hX hbl hbA hS (z_sc hi hL (n := 6) (by decide) (by decide)) dL_law_1574 ?_
  refine zi a6 ea6.symm ?_
  refine z_iL (wa := wx) (wb := wm) (va_runV (As := [.int a1, .int a2, .int a3, .int a4, .int a5, .int a6]) (rest := []) ⟨hx, hb, hml, hown, hts⟩ (wX10_price l dC dI kA _ x0 a1 a2 a3 a4 a5 a6 hX0 hgd hxt) (cwV 6 hts gL_law_X10_price rfl rfl rfl ⟨rfl, hdX10_price⟩ ⟨(Nat.le_of_ble_eq_true rfl), (Nat.le_of_ble_eq_true rfl)⟩) ⟨zPc.blind, XOK_rec hK hX0 hP, zPre hK (wl_P hP) (wl_D hD)⟩ rfl rfl hl.1 rfl (lv_room (Nat.le_of_ble_eq_true rfl)) dL_law_1575 ⟨hc1, hs1⟩) hP hD hS hA (fun r1 w1 H locs hw1 hP hD hS => ?_)
  refine lv_pop hx hb dL_law_1578 rfl ?_
  refine lv_aload_n hx hb dL_law_1579 rfl (lv_at hl 1 rfl) ?_
  refine lv_aload_n hx hb dL_law_1580 rfl (lv_at hl 3 rfl) ?_
  refine lv_iload_n hx hb dL_law_1581 rfl (lv_at hl 0 rfl) ?_
  refine lv_iconst (v := 1) hx hb dL_law_1582 (by decide) ?_
  refine lv_iadd hx hb dL_law_1583 ?_
  refine va_sld hx hb hX hbl hbA hS (z_sc hi hL (n := 1) (by decide) (by decide)) dL_law_1584 ?_
  refine zi a1 ea1.symm ?_
  refine lv_aload_n hx hb dL_law_1585 rfl (lv_at hl 3 rfl) ?_
  refine lv_iload_n hx hb dL_law_1586 rfl (lv_at hl 0 rfl) ?_
  refine lv_iconst (v := 2) hx hb dL_law_1587 (by decide) ?_
  refine lv_iadd hx hb dL_law_1588 ?_
  refine va_sld hx hb hX hbl hbA hS (z_sc hi hL (n := 2) (by decide) (by decide)) dL_law_1589 ?_
  refine zi a2 ea2.symm ?_
  refine lv_aload_n hx hb dL_law_1590 rfl (lv_at hl 3 rfl) ?_
  refine lv_iload_n hx hb dL_law_1591 rfl (lv_at hl 0 rfl) ?_
  refine lv_iconst (v := 3) hx hb dL_law_1592 (by decide) ?_
  refine lv_iadd hx hb dL_law_1593 ?_
  refine va_sld hx hb hX hbl hbA hS (z_sc hi hL (n := 3) (by decide) (by decide)) dL_law_1594 ?_
  refine zi a3 ea3.symm ?_
  refine lv_aload_n hx hb dL_law_1595 rfl (lv_at hl 3 rfl) ?_
  refine lv_iload_n hx hb dL_law_1596 rfl (lv_at hl 0 rfl) ?_
  refine lv_iconst (v := 4) hx hb dL_law_1597 (by decide) ?_
  refine lv_iadd hx hb dL_law_1598 ?_
  refine va_sld hx hb hX hbl hbA hS (z_sc hi hL (n := 4) (by decide) (by decide)) dL_law_1599 ?_
  refine zi a4 ea4.symm ?_
  refine lv_aload_n hx hb dL_law_1600 rfl (lv_at hl 3 rfl) ?_
  refine lv_iload_n hx hb dL_law_1601 rfl (lv_at hl 0 rfl) ?_
  refine lv_iconst (v := 5) hx hb dL_law_1602 (by decide) ?_
  refine lv_iadd hx hb dL_law_1603 ?_
  refine va_sld hx hb hX hbl hbA hS (z_sc hi hL (n := 5) (by decide) (by decide)) dL_law_1604 ?_
  refine zi a5 ea5.symm ?_
  refine lv_aload_n hx hb dL_law_1605 rfl (lv_at hl 3 rfl) ?_
  refine lv_iload_n hx hb dL_law_1606 rfl (lv_at hl 0 rfl) ?_
  refine lv_bipush (v := 6) hx hb dL_law_1607 (by decide) ?_
  refine lv_iadd hx hb dL_law_1609 ?_
  refine va_sld hx hb hX hbl hbA hS (z_sc hi hL (n := 6) (by decide) (by decide)) dL_law_1610 ?_
  refine zi a6 ea6.symm ?_
  refine z_iL (wa := wm) (wb := w1) (va_runV (As := [.int a1, .int a2, .int a3, .int a4, .int a5, .int a6]) (rest := []) ⟨hx, hb, hml, hown, hts⟩ (wX11_price l dC dI kA _ n0 a1 a2 a3 a4 a5 a6 hM0) (cwV 6 hts gL_law_X11_price rfl rfl rfl ⟨rfl, hdX11_price⟩ ⟨(Nat.le_of_ble_eq_true rfl), (Nat.le_of_ble_eq_true rfl)⟩) ⟨zPc.blind, MOK_rec hK hM0 (wp_P hP List.perm_append_comm), zPre hK (wl_P (wp_P hP List.perm_append_comm)) (wl_D (wp_D hD List.perm_append_comm))⟩ rfl rfl hl.1 rfl (lv_room (Nat.le_of_ble_eq_true rfl)) dL_law_1611 ⟨hc2, hs2⟩) (wp_P hP List.perm_append_comm) (wp_D hD List.perm_append_comm) hS hA (fun r2 w2 H locs hw2 hP hD hS => ?_)
  have hP := wp_P hP (List.perm_append_comm)
  have hD := wp_D hD (List.perm_append_comm)
  refine lv_pop hx hb dL_law_1614 rfl ?_
  refine lv_goto (tgt := 1730) hx hb dL_law_1615 (by decide) ?_
  refine W.widen (k := cells + 40) (n := slots + 2000) (by omega) (by omega) ?_
  exact kk w1 w2 H locs ls ⟨_, _, _, hw1, hw2⟩ hP hD hS hl
set_option maxHeartbeats 4000000 in
set_option maxRecDepth 100000 in
theorem law_c32 {p : Program} {l : Launch} {e : Env} {s : State} {m : MethodId} {below : List Frame} {meth : Method} {c : Code} {b L : Nat} {xs : Nat → Int32} {dC : Nat → ClassId} {dI : Nat → Nat → Nat} {kA : Nat → ClassId} {aS vS : Nat} {oS : Option Nat} {x0 n0 : Nat} (C0 : lw_At p s m meth c b L xs) (hL : L ≤ 5120) (hK : zK dC dI kA s) (hZ : zStr aS vS oS (fun q : Nat => s.heap.size ≤ q) s s.heap) {i : Int32} (hi : 0 ≤ i.toInt ∧ i.toInt + 10 ≤ L) {cells slots : Nat} (hc : cells + 40 ≤ 600000) (hs : slots + 2000 ≤ 7302249) (kk : ∀ (wx wm : va_W) (H : Heap) (locs : List Loc) (ls : Array Slot), LInv kA x0 n0 wx wm → va_P (dC, dI) vwCl (wx ++ wm) H → va_D (fun q : Nat => s.heap.size ≤ q) (wx ++ wm) → va_S (fun q : Nat => s.heap.size ≤ q) s.heap H locs → lv_has ls 4 [(3, .int i), (2, .ref n0), (1, .ref x0), (0, .ref b)] → W p l e room_1 s m #[Value.ref b] below meth c H locs (cells + 40) (slots + 2000) (lw_Z below #[Value.ref b] s) (F0 m 1730 ls [])) (wx wm : va_W) (H : Heap) (locs : List Loc) (ls : Array Slot) (hI : LInv kA x0 n0 wx wm) (hP : va_P (dC, dI) vwCl (wx ++ wm) H) (hD : va_D (fun q : Nat => s.heap.size ≤ q) (wx ++ wm)) (hS : va_S (fun q : Nat => s.heap.size ≤ q) s.heap H locs) (hl : lv_has ls 4 [(3, .int i), (2, .ref n0), (1, .ref x0), (0, .ref b)]) : W p l e room_1 s m #[Value.ref b] below meth c H locs cells slots (lw_Z below #[Value.ref b] s) (F0 m 1618 ls []) := by
  obtain ⟨hx, hb, hr, hml, hown0, hts0, hX, hbl, hlocks, hgv⟩ := C0
  have hown : s.vm.findClass RL = some m.cls := hown0
  have hts : ∀ w ∈ wsL_law, w.before #[Value.ref b] s = true := fun w h => hts0 w (wsL_law_in w h)
  have hA : ∀ q : Nat, s.heap.size ≤ q → (fun q : Nat => s.heap.size ≤ q) q := fun _ h => h
  have hbA : ¬ (fun q : Nat => s.heap.size ≤ q) b := Nat.not_le.mpr hbl
  obtain ⟨S_, LL, im, hX0, hM0⟩ := hI
  have hgd := MOK4_gd hM0
  have hxt := MOK4_xt hM0
  have hgr := MOK4_gr hM0
  have hgx := MOK4_gx hM0
  have hc1 : cells + 20 ≤ room_1.cells := by show cells + 20 ≤ 600000; omega
  have hs1 : slots + 1000 ≤ room_1.slots := by show slots + 1000 ≤ 7302249; omega
  have hc2 : cells + 20 + 20 ≤ room_1.cells := by show cells + 20 + 20 ≤ 600000; omega
  have hs2 : slots + 1000 + 1000 ≤ room_1.slots := by show slots + 1000 + 1000 ≤ 7302249; omega
  obtain ⟨a1, ea1⟩ : ∃ y : Int32, y = xs (i + 1).toNatClampNeg := ⟨_, rfl⟩
  obtain ⟨a2, ea2⟩ : ∃ y : Int32, y = xs (i + 2).toNatClampNeg := ⟨_, rfl⟩
  obtain ⟨a3, ea3⟩ : ∃ y : Int32, y = xs (i + 3).toNatClampNeg := ⟨_, rfl⟩
  refine lv_aload_n hx hb dL_law_1618 rfl (lv_at hl 2 rfl) ?_
  refine lv_aload_n hx hb dL_law_1619 rfl (lv_at hl 3 rfl) ?_
  refine lv_iload_n hx hb dL_law_1620 rfl (lv_at hl 0 rfl) ?_
  refine lv_iconst (v := 1) hx hb dL_law_1621 (by decide) ?_
  refine lv_iadd hx hb dL_law_1622 ?_
  refine va_sld hx hb hX hbl hbA hS (z_sc hi hL (n := 1) (by decide) (by decide)) dL_law_1623 ?_
  refine zi a1 ea1.symm ?_
  refine lv_aload_n hx hb dL_law_1624 rfl (lv_at hl 3 rfl) ?_
  refine lv_iload_n hx hb dL_law_1625 rfl (lv_at hl 0 rfl) ?_
  refine lv_iconst (v := 2) hx hb dL_law_1626 (by decide) ?_
  refine lv_iadd hx hb dL_law_1627 ?_
  refine va_sld hx hb hX hbl hbA hS (z_sc hi hL (n := 2) (by decide) (by decide)) dL_law_1628 ?_
  refine zi a2 ea2.symm ?_
  refine lv_aload_n hx hb dL_law_1629 rfl (lv_at hl 3 rfl) ?_
  refine lv_iload_n hx hb dL_law_1630 rfl (lv_at hl 0 rfl) ?_
  refine lv_iconst (v := 3) hx hb dL_law_1631 (by decide) ?_
  refine lv_iadd hx hb dL_law_1632 ?_
  refine va_sld hx hb hX hbl hbA hS (z_sc hi hL (n := 3) (by decide) (by decide)) dL_law_1633 ?_
  refine zi a3 ea3.symm ?_
  refine z_iL (wa := wx) (wb := wm) (va_runV (As := [.int a1, .int a2, .int a3]) (rest := []) ⟨hx, hb, hml, hown, hts⟩ (wX10_ahead l dC dI kA _ x0 a1 a2 a3 hX0 hgd hxt) (cwV 3 hts gL_law_X10_ahead rfl rfl rfl ⟨rfl, hdX10_ahead⟩ ⟨(Nat.le_of_ble_eq_true rfl), (Nat.le_of_ble_eq_true rfl)⟩) ⟨zPc.blind, XOK_rec hK hX0 hP, zPre hK (wl_P hP) (wl_D hD)⟩ rfl rfl hl.1 rfl (lv_room (Nat.le_of_ble_eq_true rfl)) dL_law_1634 ⟨hc1, hs1⟩) hP hD hS hA (fun r1 w1 H locs hw1 hP hD hS => ?_)
  refine lv_pop hx hb dL_law_1637 rfl ?_
  refine lv_aload_n hx hb dL_law_1638 rfl (lv_at hl 1 rfl) ?_
  refine lv_aload_n hx hb dL_law_1639 rfl (lv_at hl 3 rfl) ?_
  refine lv_iload_n hx hb dL_law_1640 rfl (lv_at hl 0 rfl) ?_
  refine lv_iconst (v := 1) hx hb dL_law_1641 (by decide) ?_
  refine lv_iadd hx hb dL_law_1642 ?_
  refine va_sld hx hb hX hbl hbA hS (z_sc hi hL (n := 1) (by decide) (by decide)) dL_law_1643 ?_
  refine zi a1 ea1.symm ?_
  refine lv_aload_n hx hb dL_law_1644 rfl (lv_at hl 3 rfl) ?_
  refine lv_iload_n hx hb dL_law_1645 rfl (lv_at hl 0 rfl) ?_
  refine lv_iconst (v := 2) hx hb dL_law_1646 (by decide) ?_
  refine lv_iadd hx hb dL_law_1647 ?_
  refine va_sld hx hb hX hbl hbA hS (z_sc hi hL (n := 2) (by decide) (by decide)) dL_law_1648 ?_
  refine zi a2 ea2.symm ?_
  refine lv_aload_n hx hb dL_law_1649 rfl (lv_at hl 3 rfl) ?_
  refine lv_iload_n hx hb dL_law_1650 rfl (lv_at hl 0 rfl) ?_
  refine lv_iconst (v := 3) hx hb dL_law_1651 (by decide) ?_
  refine lv_iadd hx hb dL_law_1652 ?_
  refine va_sld hx hb hX hbl hbA hS (z_sc hi hL (n := 3) (by decide) (by decide)) dL_law_1653 ?_
  refine zi a3 ea3.symm ?_
  refine z_iL (wa := wm) (wb := w1) (va_runV (As := [.int a1, .int a2, .int a3]) (rest := []) ⟨hx, hb, hml, hown, hts⟩ (wX11_ahead l dC dI kA _ n0 a1 a2 a3 hM0) (cwV 3 hts gL_law_X11_ahead rfl rfl rfl ⟨rfl, hdX11_ahead⟩ ⟨(Nat.le_of_ble_eq_true rfl), (Nat.le_of_ble_eq_true rfl)⟩) ⟨zPc.blind, MOK_rec hK hM0 (wp_P hP List.perm_append_comm), zPre hK (wl_P (wp_P hP List.perm_append_comm)) (wl_D (wp_D hD List.perm_append_comm))⟩ rfl rfl hl.1 rfl (lv_room (Nat.le_of_ble_eq_true rfl)) dL_law_1654 ⟨hc2, hs2⟩) (wp_P hP List.perm_append_comm) (wp_D hD List.perm_append_comm) hS hA (fun r2 w2 H locs hw2 hP hD hS => ?_)
  have hP := wp_P hP (List.perm_append_comm)
  have hD := wp_D hD (List.perm_append_comm)
  refine lv_pop hx hb dL_law_1657 rfl ?_
  refine lv_goto (tgt := 1730) hx hb dL_law_1658 (by decide) ?_
  refine W.widen (k := cells + 40) (n := slots + 2000) (by omega) (by omega) ?_
  exact kk w1 w2 H locs ls ⟨_, _, _, hw1, hw2.2⟩ hP hD hS hl
set_option maxHeartbeats 4000000 in
set_option maxRecDepth 100000 in
theorem law_c33 {p : Program} {l : Launch} {e : Env} {s : State} {m : MethodId} {below : List Frame} {meth : Method} {c : Code} {b L : Nat} {xs : Nat → Int32} {dC : Nat → ClassId} {dI : Nat → Nat → Nat} {kA : Nat → ClassId} {aS vS : Nat} {oS : Option Nat} {x0 n0 : Nat} (C0 : lw_At p s m meth c b L xs) (hL : L ≤ 5120) (hK : zK dC dI kA s) (hZ : zStr aS vS oS (fun q : Nat => s.heap.size ≤ q) s s.heap) {i : Int32} (hi : 0 ≤ i.toInt ∧ i.toInt + 10 ≤ L) {cells slots : Nat} (hc : cells + 40 ≤ 600000) (hs : slots + 2000 ≤ 7302249) (kk : ∀ (wx wm : va_W) (H : Heap) (locs : List Loc) (ls : Array Slot), LInv kA x0 n0 wx wm → va_P (dC, dI) vwCl (wx ++ wm) H → va_D (fun q : Nat => s.heap.size ≤ q) (wx ++ wm) → va_S (fun q : Nat => s.heap.size ≤ q) s.heap H locs → lv_has ls 4 [(3, .int i), (2, .ref n0), (1, .ref x0), (0, .ref b)] → W p l e room_1 s m #[Value.ref b] below meth c H locs (cells + 40) (slots + 2000) (lw_Z below #[Value.ref b] s) (F0 m 1730 ls [])) (wx wm : va_W) (H : Heap) (locs : List Loc) (ls : Array Slot) (hI : LInv kA x0 n0 wx wm) (hP : va_P (dC, dI) vwCl (wx ++ wm) H) (hD : va_D (fun q : Nat => s.heap.size ≤ q) (wx ++ wm)) (hS : va_S (fun q : Nat => s.heap.size ≤ q) s.heap H locs) (hl : lv_has ls 4 [(3, .int i), (2, .ref n0), (1, .ref x0), (0, .ref b)]) : W p l e room_1 s m #[Value.ref b] below meth c H locs cells slots (lw_Z below #[Value.ref b] s) (F0 m 1661 ls []) := by
  obtain ⟨hx, hb, hr, hml, hown0, hts0, hX, hbl, hlocks, hgv⟩ := C0
  have hown : s.vm.findClass RL = some m.cls := hown0
  have hts : ∀ w ∈ wsL_law, w.before #[Value.ref b] s = true := fun w h => hts0 w (wsL_law_in w h)
  have hA : ∀ q : Nat, s.heap.size ≤ q → (fun q : Nat => s.heap.size ≤ q) q := fun _ h => h
  have hbA : ¬ (fun q : Nat => s.heap.size ≤ q) b := Nat.not_le.mpr hbl
  obtain ⟨S_, LL, im, hX0, hM0⟩ := hI
  have hgd := MOK4_gd hM0
  have hxt := MOK4_xt hM0
  have hgr := MOK4_gr hM0
  have hgx := MOK4_gx hM0
  have hc1 : cells + 20 ≤ room_1.cells := by show cells + 20 ≤ 600000; omega
  have hs1 : slots + 1000 ≤ room_1.slots := by show slots + 1000 ≤ 7302249; omega
  have hc2 : cells + 20 + 20 ≤ room_1.cells := by show cells + 20 + 20 ≤ 600000; omega
  have hs2 : slots + 1000 + 1000 ≤ room_1.slots := by show slots + 1000 + 1000 ≤ 7302249; omega
  obtain ⟨a1, ea1⟩ : ∃ y : Int32, y = xs (i + 1).toNatClampNeg := ⟨_, rfl⟩
  refine lv_aload_n hx hb dL_law_1661 rfl (lv_at hl 2 rfl) ?_
  refine lv_aload_n hx hb dL_law_1662 rfl (lv_at hl 3 rfl) ?_
  refine lv_iload_n hx hb dL_law_1663 rfl (lv_at hl 0 rfl) ?_
  refine lv_iconst (v := 1) hx hb dL_law_1664 (by decide) ?_
  refine lv_iadd hx hb dL_law_1665 ?_
  refine va_sld hx hb hX hbl hbA hS (z_sc hi hL (n := 1) (by decide) (by decide)) dL_law_1666 ?_
  refine zi a1 ea1.symm ?_
  refine z_iL (wa := wx) (wb := wm) (va_runV (As := [.int a1]) (rest := []) ⟨hx, hb, hml, hown, hts⟩ (wX10_count l dC dI kA _ x0 a1 hX0 hgd hxt) (cwV 1 hts gL_law_X10_count rfl rfl rfl ⟨rfl, hdX10_count⟩ ⟨(Nat.le_of_ble_eq_true rfl), (Nat.le_of_ble_eq_true rfl)⟩) ⟨zPc.blind, XOK_rec hK hX0 hP, zPre hK (wl_P hP) (wl_D hD)⟩ rfl rfl hl.1 rfl (lv_room (Nat.le_of_ble_eq_true rfl)) dL_law_1667 ⟨hc1, hs1⟩) hP hD hS hA (fun r1 w1 H locs hw1 hP hD hS => ?_)
  refine lv_pop hx hb dL_law_1670 rfl ?_
  refine lv_aload_n hx hb dL_law_1671 rfl (lv_at hl 1 rfl) ?_
  refine lv_aload_n hx hb dL_law_1672 rfl (lv_at hl 3 rfl) ?_
  refine lv_iload_n hx hb dL_law_1673 rfl (lv_at hl 0 rfl) ?_
  refine lv_iconst (v := 1) hx hb dL_law_1674 (by decide) ?_
  refine lv_iadd hx hb dL_law_1675 ?_
  refine va_sld hx hb hX hbl hbA hS (z_sc hi hL (n := 1) (by decide) (by decide)) dL_law_1676 ?_
  refine zi a1 ea1.symm ?_
  refine z_iL (wa := wm) (wb := w1) (va_runV (As := [.int a1]) (rest := []) ⟨hx, hb, hml, hown, hts⟩ (wX11_count l dC dI kA _ n0 a1 hM0) (cwV 1 hts gL_law_X11_count rfl rfl rfl ⟨rfl, hdX11_count⟩ ⟨(Nat.le_of_ble_eq_true rfl), (Nat.le_of_ble_eq_true rfl)⟩) ⟨zPc.blind, MOK_rec hK hM0 (wp_P hP List.perm_append_comm), zPre hK (wl_P (wp_P hP List.perm_append_comm)) (wl_D (wp_D hD List.perm_append_comm))⟩ rfl rfl hl.1 rfl (lv_room (Nat.le_of_ble_eq_true rfl)) dL_law_1677 ⟨hc2, hs2⟩) (wp_P hP List.perm_append_comm) (wp_D hD List.perm_append_comm) hS hA (fun r2 w2 H locs hw2 hP hD hS => ?_)
  have hP := wp_P hP (List.perm_append_comm)
  have hD := wp_D hD (List.perm_append_comm)
  refine lv_pop hx hb dL_law_1680 rfl ?_
  refine lv_goto (tgt := 1730) hx hb dL_law_1681 (by decide) ?_
  refine W.widen (k := cells + 40) (n := slots + 2000) (by omega) (by omega) ?_
  exact kk w1 w2 H locs ls ⟨_, _, _, hw1.2, hw2.2⟩ hP hD hS hl
set_option maxHeartbeats 4000000 in
set_option maxRecDepth 100000 in
theorem law_c34 {p : Program} {l : Launch} {e : Env} {s : State} {m : MethodId} {below : List Frame} {meth : Method} {c : Code} {b L : Nat} {xs : Nat → Int32} {dC : Nat → ClassId} {dI : Nat → Nat → Nat} {kA : Nat → ClassId} {aS vS : Nat} {oS : Option Nat} {x0 n0 : Nat} (C0 : lw_At p s m meth c b L xs) (hL : L ≤ 5120) (hK : zK dC dI kA s) (hZ : zStr aS vS oS (fun q : Nat => s.heap.size ≤ q) s s.heap) {i : Int32} (hi : 0 ≤ i.toInt ∧ i.toInt + 10 ≤ L) {cells slots : Nat} (hc : cells + 40 ≤ 600000) (hs : slots + 2000 ≤ 7302249) (kk : ∀ (wx wm : va_W) (H : Heap) (locs : List Loc) (ls : Array Slot), LInv kA x0 n0 wx wm → va_P (dC, dI) vwCl (wx ++ wm) H → va_D (fun q : Nat => s.heap.size ≤ q) (wx ++ wm) → va_S (fun q : Nat => s.heap.size ≤ q) s.heap H locs → lv_has ls 4 [(3, .int i), (2, .ref n0), (1, .ref x0), (0, .ref b)] → W p l e room_1 s m #[Value.ref b] below meth c H locs (cells + 40) (slots + 2000) (lw_Z below #[Value.ref b] s) (F0 m 1730 ls [])) (wx wm : va_W) (H : Heap) (locs : List Loc) (ls : Array Slot) (hI : LInv kA x0 n0 wx wm) (hP : va_P (dC, dI) vwCl (wx ++ wm) H) (hD : va_D (fun q : Nat => s.heap.size ≤ q) (wx ++ wm)) (hS : va_S (fun q : Nat => s.heap.size ≤ q) s.heap H locs) (hl : lv_has ls 4 [(3, .int i), (2, .ref n0), (1, .ref x0), (0, .ref b)]) : W p l e room_1 s m #[Value.ref b] below meth c H locs cells slots (lw_Z below #[Value.ref b] s) (F0 m 1684 ls []) := by
  obtain ⟨hx, hb, hr, hml, hown0, hts0, hX, hbl, hlocks, hgv⟩ := C0
  have hown : s.vm.findClass RL = some m.cls := hown0
  have hts : ∀ w ∈ wsL_law, w.before #[Value.ref b] s = true := fun w h => hts0 w (wsL_law_in w h)
  have hA : ∀ q : Nat, s.heap.size ≤ q → (fun q : Nat => s.heap.size ≤ q) q := fun _ h => h
  have hbA : ¬ (fun q : Nat => s.heap.size ≤ q) b := Nat.not_le.mpr hbl
  obtain ⟨S_, LL, im, hX0, hM0⟩ := hI
  have hgd := MOK4_gd hM0
  have hxt := MOK4_xt hM0
  have hgr := MOK4_gr hM0
  have hgx := MOK4_gx hM0
  have hc1 : cells + 20 ≤ room_1.cells := by show cells + 20 ≤ 600000; omega
  have hs1 : slots + 1000 ≤ room_1.slots := by show slots + 1000 ≤ 7302249; omega
  have hc2 : cells + 20 + 20 ≤ room_1.cells := by show cells + 20 + 20 ≤ 600000; omega
  have hs2 : slots + 1000 + 1000 ≤ room_1.slots := by show slots + 1000 + 1000 ≤ 7302249; omega
  obtain ⟨a1, ea1⟩ : ∃ y : Int32, y = xs (i + 1).toNatClampNeg := ⟨_, rfl⟩
  refine lv_aload_n hx hb dL_law_1684 rfl (lv_at hl 2 rfl) ?_
  refine lv_aload_n hx hb dL_law_1685 rfl (lv_at hl 3 rfl) ?_
  refine lv_iload_n hx hb dL_law_1686 rfl (lv_at hl 0 rfl) ?_
  refine lv_iconst (v := 1) hx hb dL_law_1687 (by decide) ?_
  refine lv_iadd hx hb dL_law_1688 ?_
  refine va_sld hx hb hX hbl hbA hS (z_sc hi hL (n := 1) (by decide) (by decide)) dL_law_1689 ?_
  refine zi a1 ea1.symm ?_
  refine z_iL (wa := wx) (wb := wm) (va_runV (As := [.int a1]) (rest := []) ⟨hx, hb, hml, hown, hts⟩ (wX10_image l dC dI kA _ x0 a1 hX0 hgd hxt) (cwV 1 hts gL_law_X10_image rfl rfl rfl ⟨rfl, hdX10_image⟩ ⟨(Nat.le_of_ble_eq_true rfl), (Nat.le_of_ble_eq_true rfl)⟩) ⟨zPc.blind, XOK_rec hK hX0 hP, zPre hK (wl_P hP) (wl_D hD)⟩ rfl rfl hl.1 rfl (lv_room (Nat.le_of_ble_eq_true rfl)) dL_law_1690 ⟨hc1, hs1⟩) hP hD hS hA (fun r1 w1 H locs hw1 hP hD hS => ?_)
  refine lv_pop hx hb dL_law_1693 rfl ?_
  refine lv_aload_n hx hb dL_law_1694 rfl (lv_at hl 1 rfl) ?_
  refine lv_aload_n hx hb dL_law_1695 rfl (lv_at hl 3 rfl) ?_
  refine lv_iload_n hx hb dL_law_1696 rfl (lv_at hl 0 rfl) ?_
  refine lv_iconst (v := 1) hx hb dL_law_1697 (by decide) ?_
  refine lv_iadd hx hb dL_law_1698 ?_
  refine va_sld hx hb hX hbl hbA hS (z_sc hi hL (n := 1) (by decide) (by decide)) dL_law_1699 ?_
  refine zi a1 ea1.symm ?_
  refine z_iL (wa := wm) (wb := w1) (va_runV (As := [.int a1]) (rest := []) ⟨hx, hb, hml, hown, hts⟩ (wX11_image l dC dI kA _ n0 a1 hM0) (cwV 1 hts gL_law_X11_image rfl rfl rfl ⟨rfl, hdX11_image⟩ ⟨(Nat.le_of_ble_eq_true rfl), (Nat.le_of_ble_eq_true rfl)⟩) ⟨zPc.blind, MOK_rec hK hM0 (wp_P hP List.perm_append_comm), zPre hK (wl_P (wp_P hP List.perm_append_comm)) (wl_D (wp_D hD List.perm_append_comm))⟩ rfl rfl hl.1 rfl (lv_room (Nat.le_of_ble_eq_true rfl)) dL_law_1700 ⟨hc2, hs2⟩) (wp_P hP List.perm_append_comm) (wp_D hD List.perm_append_comm) hS hA (fun r2 w2 H locs hw2 hP hD hS => ?_)
  have hP := wp_P hP (List.perm_append_comm)
  have hD := wp_D hD (List.perm_append_comm)
  refine lv_pop hx hb dL_law_1703 rfl ?_
  refine lv_goto (tgt := 1730) hx hb dL_law_1704 (by decide) ?_
  refine W.widen (k := cells + 40) (n := slots + 2000) (by omega) (by omega) ?_
  exact kk w1 w2 H locs ls ⟨_, _, _, hw1.2, hw2.2⟩ hP hD hS hl
set_option maxHeartbeats 4000000 in
set_option maxRecDepth 100000 in
theorem law_c35 {p : Program} {l : Launch} {e : Env} {s : State} {m : MethodId} {below : List Frame} {meth : Method} {c : Code} {b L : Nat} {xs : Nat → Int32} {dC : Nat → ClassId} {dI : Nat → Nat → Nat} {kA : Nat → ClassId} {aS vS : Nat} {oS : Option Nat} {x0 n0 : Nat} (C0 : lw_At p s m meth c b L xs) (hL : L ≤ 5120) (hK : zK dC dI kA s) (hZ : zStr aS vS oS (fun q : Nat => s.heap.size ≤ q) s s.heap) {i : Int32} (hi : 0 ≤ i.toInt ∧ i.toInt + 10 ≤ L) {cells slots : Nat} (hc : cells + 40 ≤ 600000) (hs : slots + 2000 ≤ 7302249) (kk : ∀ (wx wm : va_W) (H : Heap) (locs : List Loc) (ls : Array Slot), LInv kA x0 n0 wx wm → va_P (dC, dI) vwCl (wx ++ wm) H → va_D (fun q : Nat => s.heap.size ≤ q) (wx ++ wm) → va_S (fun q : Nat => s.heap.size ≤ q) s.heap H locs → lv_has ls 4 [(3, .int i), (2, .ref n0), (1, .ref x0), (0, .ref b)] → W p l e room_1 s m #[Value.ref b] below meth c H locs (cells + 40) (slots + 2000) (lw_Z below #[Value.ref b] s) (F0 m 1730 ls [])) (wx wm : va_W) (H : Heap) (locs : List Loc) (ls : Array Slot) (hI : LInv kA x0 n0 wx wm) (hP : va_P (dC, dI) vwCl (wx ++ wm) H) (hD : va_D (fun q : Nat => s.heap.size ≤ q) (wx ++ wm)) (hS : va_S (fun q : Nat => s.heap.size ≤ q) s.heap H locs) (hl : lv_has ls 4 [(3, .int i), (2, .ref n0), (1, .ref x0), (0, .ref b)]) : W p l e room_1 s m #[Value.ref b] below meth c H locs cells slots (lw_Z below #[Value.ref b] s) (F0 m 1707 ls []) := by
  obtain ⟨hx, hb, hr, hml, hown0, hts0, hX, hbl, hlocks, hgv⟩ := C0
  have hown : s.vm.findClass RL = some m.cls := hown0
  have hts : ∀ w ∈ wsL_law, w.before #[Value.ref b] s = true := fun w h => hts0 w (wsL_law_in w h)
  have hA : ∀ q : Nat, s.heap.size ≤ q → (fun q : Nat => s.heap.size ≤ q) q := fun _ h => h
  have hbA : ¬ (fun q : Nat => s.heap.size ≤ q) b := Nat.not_le.mpr hbl
  obtain ⟨S_, LL, im, hX0, hM0⟩ := hI
  have hgd := MOK4_gd hM0
  have hxt := MOK4_xt hM0
  have hgr := MOK4_gr hM0
  have hgx := MOK4_gx hM0
  have hc1 : cells + 20 ≤ room_1.cells := by show cells + 20 ≤ 600000; omega
  have hs1 : slots + 1000 ≤ room_1.slots := by show slots + 1000 ≤ 7302249; omega
  have hc2 : cells + 20 + 20 ≤ room_1.cells := by show cells + 20 + 20 ≤ 600000; omega
  have hs2 : slots + 1000 + 1000 ≤ room_1.slots := by show slots + 1000 + 1000 ≤ 7302249; omega
  obtain ⟨a1, ea1⟩ : ∃ y : Int32, y = xs (i + 1).toNatClampNeg := ⟨_, rfl⟩
  refine lv_aload_n hx hb dL_law_1707 rfl (lv_at hl 2 rfl) ?_
  refine lv_aload_n hx hb dL_law_1708 rfl (lv_at hl 3 rfl) ?_
  refine lv_iload_n hx hb dL_law_1709 rfl (lv_at hl 0 rfl) ?_
  refine lv_iconst (v := 1) hx hb dL_law_1710 (by decide) ?_
  refine lv_iadd hx hb dL_law_1711 ?_
  refine va_sld hx hb hX hbl hbA hS (z_sc hi hL (n := 1) (by decide) (by decide)) dL_law_1712 ?_
  refine zi a1 ea1.symm ?_
  refine z_iL (wa := wx) (wb := wm) (va_runV (As := [.int a1]) (rest := []) ⟨hx, hb, hml, hown, hts⟩ (wX10_back l dC dI kA _ x0 a1 hX0 hgd hxt) (cwV 1 hts gL_law_X10_back rfl rfl rfl ⟨rfl, hdX10_back⟩ ⟨(Nat.le_of_ble_eq_true rfl), (Nat.le_of_ble_eq_true rfl)⟩) ⟨zPc.blind, XOK_rec hK hX0 hP, zPre hK (wl_P hP) (wl_D hD)⟩ rfl rfl hl.1 rfl (lv_room (Nat.le_of_ble_eq_true rfl)) dL_law_1713 ⟨hc1, hs1⟩) hP hD hS hA (fun r1 w1 H locs hw1 hP hD hS => ?_)
  refine lv_pop hx hb dL_law_1716 rfl ?_
  refine lv_aload_n hx hb dL_law_1717 rfl (lv_at hl 1 rfl) ?_
  refine lv_aload_n hx hb dL_law_1718 rfl (lv_at hl 3 rfl) ?_
  refine lv_iload_n hx hb dL_law_1719 rfl (lv_at hl 0 rfl) ?_
  refine lv_iconst (v := 1) hx hb dL_law_1720 (by decide) ?_
  refine lv_iadd hx hb dL_law_1721 ?_
  refine va_sld hx hb hX hbl hbA hS (z_sc hi hL (n := 1) (by decide) (by decide)) dL_law_1722 ?_
  refine zi a1 ea1.symm ?_
  refine z_iL (wa := wm) (wb := w1) (va_runV (As := [.int a1]) (rest := []) ⟨hx, hb, hml, hown, hts⟩ (wX11_back l dC dI kA _ n0 a1 hM0) (cwV 1 hts gL_law_X11_back rfl rfl rfl ⟨rfl, hdX11_back⟩ ⟨(Nat.le_of_ble_eq_true rfl), (Nat.le_of_ble_eq_true rfl)⟩) ⟨zPc.blind, MOK_rec hK hM0 (wp_P hP List.perm_append_comm), zPre hK (wl_P (wp_P hP List.perm_append_comm)) (wl_D (wp_D hD List.perm_append_comm))⟩ rfl rfl hl.1 rfl (lv_room (Nat.le_of_ble_eq_true rfl)) dL_law_1723 ⟨hc2, hs2⟩) (wp_P hP List.perm_append_comm) (wp_D hD List.perm_append_comm) hS hA (fun r2 w2 H locs hw2 hP hD hS => ?_)
  have hP := wp_P hP (List.perm_append_comm)
  have hD := wp_D hD (List.perm_append_comm)
  refine lv_pop hx hb dL_law_1726 rfl ?_
  refine lv_goto (tgt := 1730) hx hb dL_law_1727 (by decide) ?_
  refine W.widen (k := cells + 40) (n := slots + 2000) (by omega) (by omega) ?_
  exact kk w1 w2 H locs ls ⟨_, _, _, hw1.2, hw2.2⟩ hP hD hS hl
set_option maxHeartbeats 4000000 in
set_option maxRecDepth 100000 in
theorem law_c36 {p : Program} {l : Launch} {e : Env} {s : State} {m : MethodId} {below : List Frame} {meth : Method} {c : Code} {b L : Nat} {xs : Nat → Int32} {dC : Nat → ClassId} {dI : Nat → Nat → Nat} {kA : Nat → ClassId} {aS vS : Nat} {oS : Option Nat} {x0 n0 : Nat} (C0 : lw_At p s m meth c b L xs) (hL : L ≤ 5120) (hK : zK dC dI kA s) (hZ : zStr aS vS oS (fun q : Nat => s.heap.size ≤ q) s s.heap) {i : Int32} (hi : 0 ≤ i.toInt ∧ i.toInt + 10 ≤ L) {cells slots : Nat} (hc : cells + 40 ≤ 600000) (hs : slots + 2000 ≤ 7302249) (kk : ∀ (wx wm : va_W) (H : Heap) (locs : List Loc) (ls : Array Slot), LInv kA x0 n0 wx wm → va_P (dC, dI) vwCl (wx ++ wm) H → va_D (fun q : Nat => s.heap.size ≤ q) (wx ++ wm) → va_S (fun q : Nat => s.heap.size ≤ q) s.heap H locs → lv_has ls 4 [(3, .int i), (2, .ref n0), (1, .ref x0), (0, .ref b)] → W p l e room_1 s m #[Value.ref b] below meth c H locs (cells + 40) (slots + 2000) (lw_Z below #[Value.ref b] s) (F0 m 1730 ls [])) (wx wm : va_W) (H : Heap) (locs : List Loc) (ls : Array Slot) (hI : LInv kA x0 n0 wx wm) (hP : va_P (dC, dI) vwCl (wx ++ wm) H) (hD : va_D (fun q : Nat => s.heap.size ≤ q) (wx ++ wm)) (hS : va_S (fun q : Nat => s.heap.size ≤ q) s.heap H locs) (hl : lv_has ls 4 [(3, .int i), (2, .ref n0), (1, .ref x0), (0, .ref b)]) : W p l e room_1 s m #[Value.ref b] below meth c H locs cells slots (lw_Z below #[Value.ref b] s) (F0 m 1730 ls []) := by
  obtain ⟨hx, hb, hr, hml, hown0, hts0, hX, hbl, hlocks, hgv⟩ := C0
  have hown : s.vm.findClass RL = some m.cls := hown0
  have hts : ∀ w ∈ wsL_law, w.before #[Value.ref b] s = true := fun w h => hts0 w (wsL_law_in w h)
  have hA : ∀ q : Nat, s.heap.size ≤ q → (fun q : Nat => s.heap.size ≤ q) q := fun _ h => h
  have hbA : ¬ (fun q : Nat => s.heap.size ≤ q) b := Nat.not_le.mpr hbl
  obtain ⟨S_, LL, im, hX0, hM0⟩ := hI
  have hgd := MOK4_gd hM0
  have hxt := MOK4_xt hM0
  have hgr := MOK4_gr hM0
  have hgx := MOK4_gx hM0
  have hc1 : cells + 20 ≤ room_1.cells := by show cells + 20 ≤ 600000; omega
  have hs1 : slots + 1000 ≤ room_1.slots := by show slots + 1000 ≤ 7302249; omega
  have hc2 : cells + 20 + 20 ≤ room_1.cells := by show cells + 20 + 20 ≤ 600000; omega
  have hs2 : slots + 1000 + 1000 ≤ room_1.slots := by show slots + 1000 + 1000 ≤ 7302249; omega
  refine W.widen (k := cells + 40) (n := slots + 2000) (by omega) (by omega) ?_
  exact kk wx wm H locs ls ⟨S_, LL, im, hX0, hM0⟩ hP hD hS hl
