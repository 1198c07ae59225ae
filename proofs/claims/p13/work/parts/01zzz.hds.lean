theorem hdc_0 : (RX11 : String) ≠ "java/lang/invoke/MethodHandle" ∧ (RX11 : String) ≠ "java/lang/invoke/VarHandle" := by decide +kernel
theorem hdc_1 : (RX6 : String) ≠ "java/lang/invoke/MethodHandle" ∧ (RX6 : String) ≠ "java/lang/invoke/VarHandle" := by decide +kernel
theorem hdc_2 : (RX9 : String) ≠ "java/lang/invoke/MethodHandle" ∧ (RX9 : String) ≠ "java/lang/invoke/VarHandle" := by decide +kernel
theorem hdc_3 : (RX1 : String) ≠ "java/lang/invoke/MethodHandle" ∧ (RX1 : String) ≠ "java/lang/invoke/VarHandle" := by decide +kernel
theorem hdc_4 : (RX4 : String) ≠ "java/lang/invoke/MethodHandle" ∧ (RX4 : String) ≠ "java/lang/invoke/VarHandle" := by decide +kernel
theorem hdc_5 : (RX0 : String) ≠ "java/lang/invoke/MethodHandle" ∧ (RX0 : String) ≠ "java/lang/invoke/VarHandle" := by decide +kernel
theorem hdc_6 : (RX10 : String) ≠ "java/lang/invoke/MethodHandle" ∧ (RX10 : String) ≠ "java/lang/invoke/VarHandle" := by decide +kernel
theorem hdc_7 : (RX7 : String) ≠ "java/lang/invoke/MethodHandle" ∧ (RX7 : String) ≠ "java/lang/invoke/VarHandle" := by decide +kernel
theorem hdc_8 : (RX5 : String) ≠ "java/lang/invoke/MethodHandle" ∧ (RX5 : String) ≠ "java/lang/invoke/VarHandle" := by decide +kernel
theorem hdc_9 : (RJ6 : String) ≠ "java/lang/invoke/MethodHandle" ∧ (RJ6 : String) ≠ "java/lang/invoke/VarHandle" := by decide +kernel
theorem hdc_10 : (RX3 : String) ≠ "java/lang/invoke/MethodHandle" ∧ (RX3 : String) ≠ "java/lang/invoke/VarHandle" := by decide +kernel
theorem hdc_11 : (RX8 : String) ≠ "java/lang/invoke/MethodHandle" ∧ (RX8 : String) ≠ "java/lang/invoke/VarHandle" := by decide +kernel
theorem hdc_12 : (RX2 : String) ≠ "java/lang/invoke/MethodHandle" ∧ (RX2 : String) ≠ "java/lang/invoke/VarHandle" := by decide +kernel
theorem hdc_13 : (RJ0 : String) ≠ "java/lang/invoke/MethodHandle" ∧ (RJ0 : String) ≠ "java/lang/invoke/VarHandle" := by decide +kernel
theorem hdc_14 : (RJ3 : String) ≠ "java/lang/invoke/MethodHandle" ∧ (RJ3 : String) ≠ "java/lang/invoke/VarHandle" := by decide +kernel
theorem hdc_15 : (RJ1 : String) ≠ "java/lang/invoke/MethodHandle" ∧ (RJ1 : String) ≠ "java/lang/invoke/VarHandle" := by decide +kernel
theorem hdd_0 : (parseMethodDescriptor "(II)I").map (fun d => d.parameters.length) = some 2 := by decide +kernel
theorem hdd_1 : (parseMethodDescriptor "(I)Z").map (fun d => d.parameters.length) = some 1 := by decide +kernel
theorem hdd_2 : (parseMethodDescriptor "(JJJ)Z").map (fun d => d.parameters.length) = some 3 := by decide +kernel
theorem hdd_3 : (parseMethodDescriptor "(I)I").map (fun d => d.parameters.length) = some 1 := by decide +kernel
theorem hdd_4 : (parseMethodDescriptor "(II)Z").map (fun d => d.parameters.length) = some 2 := by decide +kernel
theorem hdd_5 : (parseMethodDescriptor "(IIII)V").map (fun d => d.parameters.length) = some 4 := by decide +kernel
theorem hdd_6 : (parseMethodDescriptor "()I").map (fun d => d.parameters.length) = some 0 := by decide +kernel
theorem hdd_7 : (parseMethodDescriptor "(III)Z").map (fun d => d.parameters.length) = some 3 := by decide +kernel
theorem hdd_8 : (parseMethodDescriptor "()J").map (fun d => d.parameters.length) = some 0 := by decide +kernel
theorem hdd_9 : (parseMethodDescriptor "(IJJ)J").map (fun d => d.parameters.length) = some 3 := by decide +kernel
theorem hdd_10 : (parseMethodDescriptor "(J)V").map (fun d => d.parameters.length) = some 1 := by decide +kernel
theorem hdd_11 : (parseMethodDescriptor "(III)J").map (fun d => d.parameters.length) = some 3 := by decide +kernel
theorem hdd_12 : (parseMethodDescriptor "(II)J").map (fun d => d.parameters.length) = some 2 := by decide +kernel
theorem hdd_13 : (parseMethodDescriptor "(JJJ)J").map (fun d => d.parameters.length) = some 3 := by decide +kernel
theorem hdd_14 : (parseMethodDescriptor "(IIIII)V").map (fun d => d.parameters.length) = some 5 := by decide +kernel
theorem hdd_15 : (parseMethodDescriptor "(III)I").map (fun d => d.parameters.length) = some 3 := by decide +kernel
theorem hdd_16 : (parseMethodDescriptor "(IIIIIII)V").map (fun d => d.parameters.length) = some 7 := by decide +kernel
theorem hdd_17 : (parseMethodDescriptor "(I)V").map (fun d => d.parameters.length) = some 1 := by decide +kernel
theorem hdd_18 : (parseMethodDescriptor "(II)V").map (fun d => d.parameters.length) = some 2 := by decide +kernel
theorem hdd_19 : (parseMethodDescriptor "(IIIII)Z").map (fun d => d.parameters.length) = some 5 := by decide +kernel
theorem hdd_20 : (parseMethodDescriptor "(IIIIIIIII)V").map (fun d => d.parameters.length) = some 9 := by decide +kernel
theorem hdd_21 : (parseMethodDescriptor "(IIIIIIII)V").map (fun d => d.parameters.length) = some 8 := by decide +kernel
theorem hdd_22 : (parseMethodDescriptor "()Z").map (fun d => d.parameters.length) = some 0 := by decide +kernel
theorem hdd_23 : (parseMethodDescriptor "(J)Z").map (fun d => d.parameters.length) = some 1 := by decide +kernel
theorem hdd_24 : (parseMethodDescriptor "()V").map (fun d => d.parameters.length) = some 0 := by decide +kernel
theorem hdd_25 : (parseMethodDescriptor "(III)V").map (fun d => d.parameters.length) = some 3 := by decide +kernel
theorem hdd_26 : (parseMethodDescriptor "(LSnowMules$Table;)V").map (fun d => d.parameters.length) = some 1 := by decide +kernel
theorem hdd_27 : (parseMethodDescriptor "(II[I)J").map (fun d => d.parameters.length) = some 3 := by decide +kernel
theorem hdd_28 : (parseMethodDescriptor "(JIJ)Z").map (fun d => d.parameters.length) = some 3 := by decide +kernel
theorem hdd_29 : (parseMethodDescriptor "(II[I)Z").map (fun d => d.parameters.length) = some 3 := by decide +kernel
theorem hdd_30 : (parseMethodDescriptor "(LSnowMules$World;I)V").map (fun d => d.parameters.length) = some 2 := by decide +kernel
theorem hdd_31 : (parseMethodDescriptor "(I[I)J").map (fun d => d.parameters.length) = some 2 := by decide +kernel
theorem hdd_32 : (parseMethodDescriptor "(JI)I").map (fun d => d.parameters.length) = some 2 := by decide +kernel
theorem hdd_33 : (parseMethodDescriptor "(LSnowMules$World;II)V").map (fun d => d.parameters.length) = some 3 := by decide +kernel
theorem hdd_34 : (parseMethodDescriptor "(LSnowMules$World;III)I").map (fun d => d.parameters.length) = some 4 := by decide +kernel
theorem hdd_35 : (parseMethodDescriptor "(LSnowMules$World;IIII)V").map (fun d => d.parameters.length) = some 5 := by decide +kernel
theorem hdd_36 : (parseMethodDescriptor "(LSnowMules$World;LSnowMules$Law;I)I").map (fun d => d.parameters.length) = some 3 := by decide +kernel
theorem hdd_37 : (parseMethodDescriptor "(LSnowMules$World;LSnowMules$Law;I)V").map (fun d => d.parameters.length) = some 3 := by decide +kernel
theorem hdd_38 : (parseMethodDescriptor "(LSnowMules$World;LSnowMules$Law;III)I").map (fun d => d.parameters.length) = some 5 := by decide +kernel
theorem hdd_39 : (parseMethodDescriptor "(LSnowMules$World;I)I").map (fun d => d.parameters.length) = some 2 := by decide +kernel
theorem hdd_40 : (parseMethodDescriptor "(LSnowMules$World;II)I").map (fun d => d.parameters.length) = some 3 := by decide +kernel
theorem hdd_41 : (parseMethodDescriptor "(IZ)Z").map (fun d => d.parameters.length) = some 2 := by decide +kernel
theorem hdd_42 : (parseMethodDescriptor "(IIZ)V").map (fun d => d.parameters.length) = some 3 := by decide +kernel
theorem hdd_43 : (parseMethodDescriptor "(LSnowMules$Law;IIII)V").map (fun d => d.parameters.length) = some 5 := by decide +kernel
theorem hdd_44 : (parseMethodDescriptor "()B").map (fun d => d.parameters.length) = some 0 := by decide +kernel
theorem hdd_45 : (parseMethodDescriptor "(IILjava/util/function/BiFunction;)I").map (fun d => d.parameters.length) = some 3 := by decide +kernel
theorem hdd_46 : (parseMethodDescriptor "([BI)C").map (fun d => d.parameters.length) = some 2 := by decide +kernel
theorem hdd_47 : (parseMethodDescriptor "(I)C").map (fun d => d.parameters.length) = some 1 := by decide +kernel
theorem hdd_48 : (parseMethodDescriptor "([III)I").map (fun d => d.parameters.length) = some 3 := by decide +kernel
theorem hdd_49 : (parseMethodDescriptor "([II)V").map (fun d => d.parameters.length) = some 2 := by decide +kernel
theorem hdd_50 : (parseMethodDescriptor "(I)LSnowMules$Law;").map (fun d => d.parameters.length) = some 1 := by decide +kernel
theorem hdd_51 : (parseMethodDescriptor "(IIII)Z").map (fun d => d.parameters.length) = some 4 := by decide +kernel
theorem hdd_52 : (parseMethodDescriptor "(LSnowMules$World;LSnowMules$Law;)V").map (fun d => d.parameters.length) = some 2 := by decide +kernel
theorem hdd_53 : (parseMethodDescriptor "(LSnowMules$Law;IIZ)I").map (fun d => d.parameters.length) = some 4 := by decide +kernel
theorem hdd_54 : (parseMethodDescriptor "(LSnowMules$World;LSnowMules$Law;II)Z").map (fun d => d.parameters.length) = some 4 := by decide +kernel
theorem hdd_55 : (parseMethodDescriptor "(LSnowMules$World;)V").map (fun d => d.parameters.length) = some 1 := by decide +kernel
theorem hdd_56 : (parseMethodDescriptor "([IILSnowMules$Law;)I").map (fun d => d.parameters.length) = some 3 := by decide +kernel
theorem hdd_57 : (parseMethodDescriptor "(LSnowMules$World;LSnowMules$Trip;)V").map (fun d => d.parameters.length) = some 2 := by decide +kernel
theorem hdd_58 : (parseMethodDescriptor "(IIIII)I").map (fun d => d.parameters.length) = some 5 := by decide +kernel
theorem hdd_59 : (parseMethodDescriptor "(IIIIII)I").map (fun d => d.parameters.length) = some 6 := by decide +kernel
theorem hdd_60 : (parseMethodDescriptor "(IIIIIIII)I").map (fun d => d.parameters.length) = some 8 := by decide +kernel
theorem hdd_61 : (parseMethodDescriptor "(IIIIIIIII)I").map (fun d => d.parameters.length) = some 9 := by decide +kernel
theorem hdd_62 : (parseMethodDescriptor "(IIII)I").map (fun d => d.parameters.length) = some 4 := by decide +kernel
