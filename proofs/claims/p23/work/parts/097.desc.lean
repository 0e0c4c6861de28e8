def RJ6 : String := "java/lang/Integer"
def RJ7 : String := "java/util/Arrays"
theorem pn_J0 : plainName RJ0 = true := by decide +kernel
theorem cn_J0 : RJ0 ≠ "java/lang/invoke/MethodHandle" ∧ RJ0 ≠ "java/lang/invoke/VarHandle" := by decide +kernel
theorem pn_J6 : plainName RJ6 = true := by decide +kernel
theorem cn_J6 : RJ6 ≠ "java/lang/invoke/MethodHandle" ∧ RJ6 ≠ "java/lang/invoke/VarHandle" := by decide +kernel
theorem pn_J7 : plainName RJ7 = true := by decide +kernel
theorem cn_J7 : RJ7 ≠ "java/lang/invoke/MethodHandle" ∧ RJ7 ≠ "java/lang/invoke/VarHandle" := by decide +kernel
theorem pn_X0 : plainName RX0 = true := by decide +kernel
theorem cn_X0 : RX0 ≠ "java/lang/invoke/MethodHandle" ∧ RX0 ≠ "java/lang/invoke/VarHandle" := by decide +kernel
theorem pn_X1 : plainName RX1 = true := by decide +kernel
theorem cn_X1 : RX1 ≠ "java/lang/invoke/MethodHandle" ∧ RX1 ≠ "java/lang/invoke/VarHandle" := by decide +kernel
theorem pn_X10 : plainName RX10 = true := by decide +kernel
theorem cn_X10 : RX10 ≠ "java/lang/invoke/MethodHandle" ∧ RX10 ≠ "java/lang/invoke/VarHandle" := by decide +kernel
theorem pn_X2 : plainName RX2 = true := by decide +kernel
theorem cn_X2 : RX2 ≠ "java/lang/invoke/MethodHandle" ∧ RX2 ≠ "java/lang/invoke/VarHandle" := by decide +kernel
theorem pn_X3 : plainName RX3 = true := by decide +kernel
theorem cn_X3 : RX3 ≠ "java/lang/invoke/MethodHandle" ∧ RX3 ≠ "java/lang/invoke/VarHandle" := by decide +kernel
theorem pn_X4 : plainName RX4 = true := by decide +kernel
theorem cn_X4 : RX4 ≠ "java/lang/invoke/MethodHandle" ∧ RX4 ≠ "java/lang/invoke/VarHandle" := by decide +kernel
theorem pn_X5 : plainName RX5 = true := by decide +kernel
theorem cn_X5 : RX5 ≠ "java/lang/invoke/MethodHandle" ∧ RX5 ≠ "java/lang/invoke/VarHandle" := by decide +kernel
theorem pn_X6 : plainName RX6 = true := by decide +kernel
theorem cn_X6 : RX6 ≠ "java/lang/invoke/MethodHandle" ∧ RX6 ≠ "java/lang/invoke/VarHandle" := by decide +kernel
theorem pn_X7 : plainName RX7 = true := by decide +kernel
theorem cn_X7 : RX7 ≠ "java/lang/invoke/MethodHandle" ∧ RX7 ≠ "java/lang/invoke/VarHandle" := by decide +kernel
theorem pn_X8 : plainName RX8 = true := by decide +kernel
theorem cn_X8 : RX8 ≠ "java/lang/invoke/MethodHandle" ∧ RX8 ≠ "java/lang/invoke/VarHandle" := by decide +kernel
theorem pn_X9 : plainName RX9 = true := by decide +kernel
theorem cn_X9 : RX9 ≠ "java/lang/invoke/MethodHandle" ∧ RX9 ≠ "java/lang/invoke/VarHandle" := by decide +kernel
theorem ds_0 : (parseMethodDescriptor "(LPaidBySigns$Hire;II)Z").map (fun d => d.parameters.length) = some 3 := by decide +kernel
theorem ds_1 : (parseMethodDescriptor "(LPaidBySigns$Hire;)V").map (fun d => d.parameters.length) = some 1 := by decide +kernel
theorem ds_2 : (parseMethodDescriptor "(LPaidBySigns$Hire;II)V").map (fun d => d.parameters.length) = some 3 := by decide +kernel
theorem ds_3 : (parseMethodDescriptor "(II)V").map (fun d => d.parameters.length) = some 2 := by decide +kernel
theorem ds_4 : (parseMethodDescriptor "(II)Z").map (fun d => d.parameters.length) = some 2 := by decide +kernel
theorem ds_5 : (parseMethodDescriptor "(I)I").map (fun d => d.parameters.length) = some 1 := by decide +kernel
theorem ds_6 : (parseMethodDescriptor "(III)Z").map (fun d => d.parameters.length) = some 3 := by decide +kernel
theorem ds_7 : (parseMethodDescriptor "()V").map (fun d => d.parameters.length) = some 0 := by decide +kernel
theorem ds_8 : (parseMethodDescriptor "(I)Z").map (fun d => d.parameters.length) = some 1 := by decide +kernel
theorem ds_9 : (parseMethodDescriptor "(II)I").map (fun d => d.parameters.length) = some 2 := by decide +kernel
theorem ds_10 : (parseMethodDescriptor "(III)I").map (fun d => d.parameters.length) = some 3 := by decide +kernel
theorem ds_11 : (parseMethodDescriptor "(LPaidBySigns$Hire;II)J").map (fun d => d.parameters.length) = some 3 := by decide +kernel
theorem ds_12 : (parseMethodDescriptor "(LPaidBySigns$Fraction;)V").map (fun d => d.parameters.length) = some 1 := by decide +kernel
theorem ds_13 : (parseMethodDescriptor "(JJ)V").map (fun d => d.parameters.length) = some 2 := by decide +kernel
theorem ds_14 : (parseMethodDescriptor "(LPaidBySigns$Fraction;LPaidBySigns$Fraction;)Z").map (fun d => d.parameters.length) = some 2 := by decide +kernel
theorem ds_15 : (parseMethodDescriptor "(JJ)J").map (fun d => d.parameters.length) = some 2 := by decide +kernel
theorem ds_16 : (parseMethodDescriptor "(JJLPaidBySigns$Fraction;)V").map (fun d => d.parameters.length) = some 3 := by decide +kernel
theorem ds_17 : (parseMethodDescriptor "(I[I)I").map (fun d => d.parameters.length) = some 2 := by decide +kernel
theorem ds_18 : (parseMethodDescriptor "([I)I").map (fun d => d.parameters.length) = some 1 := by decide +kernel
theorem ds_19 : (parseMethodDescriptor "(LPaidBySigns$Hire;I)Z").map (fun d => d.parameters.length) = some 2 := by decide +kernel
theorem ds_20 : (parseMethodDescriptor "(LPaidBySigns$Hire;III)Z").map (fun d => d.parameters.length) = some 4 := by decide +kernel
theorem ds_21 : (parseMethodDescriptor "(LPaidBySigns$Fraction;I)V").map (fun d => d.parameters.length) = some 2 := by decide +kernel
theorem ds_22 : (parseMethodDescriptor "(LPaidBySigns$Hire;IIII)Z").map (fun d => d.parameters.length) = some 5 := by decide +kernel
theorem ds_23 : (parseMethodDescriptor "(I)V").map (fun d => d.parameters.length) = some 1 := by decide +kernel
theorem ds_24 : (parseMethodDescriptor "(LPaidBySigns$Fraction;LPaidBySigns$Hire;II)V").map (fun d => d.parameters.length) = some 4 := by decide +kernel
theorem ds_25 : (parseMethodDescriptor "()Z").map (fun d => d.parameters.length) = some 0 := by decide +kernel
theorem ds_26 : (parseMethodDescriptor "(LPaidBySigns$Fraction;LPaidBySigns$Hire;I)Z").map (fun d => d.parameters.length) = some 3 := by decide +kernel
theorem ds_27 : (parseMethodDescriptor "(LPaidBySigns$Hire;JJ)J").map (fun d => d.parameters.length) = some 3 := by decide +kernel
theorem ds_28 : (parseMethodDescriptor "(LPaidBySigns$Hire;II)I").map (fun d => d.parameters.length) = some 3 := by decide +kernel
theorem ds_29 : (parseMethodDescriptor "([I)Z").map (fun d => d.parameters.length) = some 1 := by decide +kernel
theorem ds_30 : (parseMethodDescriptor "(Z)Z").map (fun d => d.parameters.length) = some 1 := by decide +kernel
theorem ds_31 : (parseMethodDescriptor "(Ljava/lang/String;)Z").map (fun d => d.parameters.length) = some 1 := by decide +kernel
theorem ds_32 : (parseMethodDescriptor "(B)I").map (fun d => d.parameters.length) = some 1 := by decide +kernel
theorem ds_33 : (parseMethodDescriptor "(III)V").map (fun d => d.parameters.length) = some 3 := by decide +kernel
theorem ds_34 : (parseMethodDescriptor "()I").map (fun d => d.parameters.length) = some 0 := by decide +kernel
theorem ds_35 : (parseMethodDescriptor "([J[JIJ)V").map (fun d => d.parameters.length) = some 4 := by decide +kernel
theorem ds_36 : (parseMethodDescriptor "(IIIII)I").map (fun d => d.parameters.length) = some 5 := by decide +kernel
theorem ds_37 : (parseMethodDescriptor "()J").map (fun d => d.parameters.length) = some 0 := by decide +kernel
theorem ds_38 : (parseMethodDescriptor "(IZ)J").map (fun d => d.parameters.length) = some 2 := by decide +kernel
theorem ds_39 : (parseMethodDescriptor "(JJJ)Z").map (fun d => d.parameters.length) = some 3 := by decide +kernel
theorem ds_40 : (parseMethodDescriptor "([JI)Z").map (fun d => d.parameters.length) = some 2 := by decide +kernel
theorem ds_41 : (parseMethodDescriptor "(J)I").map (fun d => d.parameters.length) = some 1 := by decide +kernel
theorem ds_42 : (parseMethodDescriptor "(I)J").map (fun d => d.parameters.length) = some 1 := by decide +kernel
theorem ds_43 : (parseMethodDescriptor "(II)J").map (fun d => d.parameters.length) = some 2 := by decide +kernel
theorem ds_44 : (parseMethodDescriptor "(JJI)V").map (fun d => d.parameters.length) = some 3 := by decide +kernel
theorem ds_45 : (parseMethodDescriptor "(JJJJ)J").map (fun d => d.parameters.length) = some 4 := by decide +kernel
theorem ds_46 : (parseMethodDescriptor "(JJI)J").map (fun d => d.parameters.length) = some 3 := by decide +kernel
theorem ds_47 : (parseMethodDescriptor "(I)C").map (fun d => d.parameters.length) = some 1 := by decide +kernel
theorem ds_48 : (parseMethodDescriptor "()B").map (fun d => d.parameters.length) = some 0 := by decide +kernel
theorem ds_49 : (parseMethodDescriptor "([JJ)V").map (fun d => d.parameters.length) = some 2 := by decide +kernel
theorem ds_50 : (parseMethodDescriptor "([II)V").map (fun d => d.parameters.length) = some 2 := by decide +kernel
