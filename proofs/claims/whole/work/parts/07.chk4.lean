set_option maxRecDepth 100000 in
theorem eOK_L0 : kL_168_0.all (eOK 168) = true := by decide +kernel
set_option maxRecDepth 100000 in
theorem eOK_L1 : kL_168_1.all (eOK 168) = true := by decide +kernel
set_option maxRecDepth 100000 in
theorem eOK_L2 : kL_168_2.all (eOK 168) = true := by decide +kernel
set_option maxRecDepth 100000 in
theorem eOK_L3 : kL_168_3.all (eOK 168) = true := by decide +kernel
set_option maxRecDepth 100000 in
theorem eOK_L4 : kL_168_4.all (eOK 168) = true := by decide +kernel
set_option maxRecDepth 100000 in
theorem eOK_L5 : kL_168_5.all (eOK 168) = true := by decide +kernel
set_option maxRecDepth 100000 in
theorem eOK_L6 : kL_168_6.all (eOK 168) = true := by decide +kernel
set_option maxRecDepth 100000 in
theorem eOK_L7 : kL_168_7.all (eOK 168) = true := by decide +kernel
set_option maxRecDepth 100000 in
theorem eOK_L8 : kL_168_8.all (eOK 168) = true := by decide +kernel
set_option maxRecDepth 100000 in
theorem eOK_L9 : kL_168_9.all (eOK 168) = true := by decide +kernel
set_option maxRecDepth 100000 in
theorem eOK_L10 : kL_168_10.all (eOK 168) = true := by decide +kernel
set_option maxRecDepth 100000 in
theorem eOK_L11 : kL_168_11.all (eOK 168) = true := by decide +kernel
set_option maxRecDepth 100000 in
theorem arr_all : (wAt kArr.1 (.arrayClass .int) && wAt kArr.2.1 (.arrayClass .long) && wAt kArr.2.2 (.arrayClass .boolean)) = true := by decide +kernel
set_option maxRecDepth 100000 in
theorem nat_all : ([Cond.native arraycopyName, .static arraycopyName, .initialized "java/lang/System", .instanceMethod objectInit, .code objectInit ⟨#[0xb1]⟩ 1 none, .static Lib.Math.max.name, .static Lib.Math.min.name, .initialized "java/lang/Math", .code Lib.Math.max.name Lib.Math.max.code 2 (some .int), .code Lib.Math.min.name Lib.Math.min.code 2 (some .int)] : List Jvm.Cond).all (fun w => decide (w ∈ lw_tbl) && goodWord w) = true := by decide +kernel
