/-! ===== words of the tables that are used by name ===== -/
set_option maxRecDepth 100000 in
theorem tb_oc : Cond.code Lib.objectInit ⟨#[0xb1]⟩ 1 none ∈ ni_TB := List.mem_filter.mpr ⟨ni_in1 (List.mem_of_getElem? (i := 24) rfl), rfl⟩
set_option maxRecDepth 100000 in
theorem tb_oi : Cond.instanceMethod Lib.objectInit ∈ ni_TB := List.mem_filter.mpr ⟨ni_in1 (List.mem_of_getElem? (i := 23) rfl), rfl⟩
set_option maxRecDepth 100000 in
theorem tb_absc : Cond.code Lib.Math.abs.name Lib.Math.abs.code 1 (some .int) ∈ ni_TB := List.mem_filter.mpr ⟨ni_in3 (List.mem_of_getElem? (i := 45) rfl), rfl⟩
set_option maxRecDepth 100000 in
theorem tb_abss : Cond.static Lib.Math.abs.name ∈ ni_TB := List.mem_filter.mpr ⟨ni_in3 (List.mem_of_getElem? (i := 44) rfl), rfl⟩
set_option maxRecDepth 100000 in
theorem tb_maxc : Cond.code Lib.Math.max.name Lib.Math.max.code 2 (some .int) ∈ ni_TB := List.mem_filter.mpr ⟨ni_in2 (List.mem_of_getElem? (i := 215) rfl), rfl⟩
set_option maxRecDepth 100000 in
theorem tb_maxs : Cond.static Lib.Math.max.name ∈ ni_TB := List.mem_filter.mpr ⟨ni_in2 (List.mem_of_getElem? (i := 214) rfl), rfl⟩
set_option maxRecDepth 100000 in
theorem tb_minc : Cond.code Lib.Math.min.name Lib.Math.min.code 2 (some .int) ∈ ni_TB := List.mem_filter.mpr ⟨ni_in3 (List.mem_of_getElem? (i := 58) rfl), rfl⟩
set_option maxRecDepth 100000 in
theorem tb_mins : Cond.static Lib.Math.min.name ∈ ni_TB := List.mem_filter.mpr ⟨ni_in3 (List.mem_of_getElem? (i := 57) rfl), rfl⟩
set_option maxRecDepth 100000 in
theorem tb_mi : Cond.initialized "java/lang/Math" ∈ ni_TB := List.mem_filter.mpr ⟨ni_in1 (List.mem_of_getElem? (i := 15) rfl), rfl⟩
set_option maxRecDepth 100000 in
theorem tb_an : Cond.native arraycopyName ∈ ni_TB := List.mem_filter.mpr ⟨ni_in2 (List.mem_of_getElem? (i := 28) rfl), rfl⟩
set_option maxRecDepth 100000 in
theorem tb_as : Cond.static arraycopyName ∈ ni_TB := List.mem_filter.mpr ⟨ni_in2 (List.mem_of_getElem? (i := 27) rfl), rfl⟩
set_option maxRecDepth 100000 in
theorem tb_ai : Cond.initialized "java/lang/System" ∈ ni_TB := List.mem_filter.mpr ⟨ni_in1 (List.mem_of_getElem? (i := 10) rfl), rfl⟩
set_option maxRecDepth 100000 in
theorem tb_sv : Cond.fieldLink "java/lang/String" 9 "java/lang/String" "value" "[B" ∈ ni_TB := List.mem_filter.mpr ⟨List.mem_append_right _ (List.mem_append_right _ (List.mem_append_right _ (List.mem_append_right _ (List.mem_append_right _ (List.mem_append_right _ (List.mem_of_getElem? (i := 3) rfl)))))), rfl⟩
set_option maxRecDepth 100000 in
theorem tb_sc : Cond.fieldLink "java/lang/String" 15 "java/lang/String" "coder" "B" ∈ ni_TB := List.mem_filter.mpr ⟨List.mem_append_right _ (List.mem_append_right _ (List.mem_append_right _ (List.mem_append_right _ (List.mem_append_right _ (List.mem_append_right _ (List.mem_of_getElem? (i := 4) rfl)))))), rfl⟩
set_option maxRecDepth 100000 in
theorem tb_aI : Cond.arrayClass .int ∈ ni_TB := List.mem_filter.mpr ⟨ni_in1 (List.mem_of_getElem? (i := 72) rfl), rfl⟩
set_option maxRecDepth 100000 in
theorem tb_aJ : Cond.arrayClass .long ∈ ni_TB := List.mem_filter.mpr ⟨ni_in1 (List.mem_of_getElem? (i := 193) rfl), rfl⟩
