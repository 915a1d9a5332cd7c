set_option maxRecDepth 100000 in
theorem in_t1 {w : Cond} (h : w ∈ tables_1_1) : w ∈ lw_tbl := List.mem_append_right _ (List.mem_append_left _ h)
set_option maxRecDepth 100000 in
theorem in_t2 {w : Cond} (h : w ∈ tables_1_2) : w ∈ lw_tbl := List.mem_append_right _ (List.mem_append_right _ (List.mem_append_left _ h))
set_option maxRecDepth 100000 in
theorem in_t3 {w : Cond} (h : w ∈ tables_1_3) : w ∈ lw_tbl := List.mem_append_right _ (List.mem_append_right _ (List.mem_append_right _ (List.mem_append_left _ h)))
set_option maxRecDepth 100000 in
theorem in_t4 {w : Cond} (h : w ∈ tables_1_4) : w ∈ lw_tbl := List.mem_append_right _ (List.mem_append_right _ (List.mem_append_right _ (List.mem_append_right _ (List.mem_append_left _ h))))
set_option maxRecDepth 100000 in
theorem in_t5 {w : Cond} (h : w ∈ tables_1_5) : w ∈ lw_tbl := List.mem_append_right _ (List.mem_append_right _ (List.mem_append_right _ (List.mem_append_right _ (List.mem_append_right _ (List.mem_append_left _ h)))))
set_option maxRecDepth 100000 in
theorem in_t6 {w : Cond} (h : w ∈ tables_1_6) : w ∈ lw_tbl := List.mem_append_right _ (List.mem_append_right _ (List.mem_append_right _ (List.mem_append_right _ (List.mem_append_right _ (List.mem_append_right _ (List.mem_append_left _ h))))))
set_option maxRecDepth 100000 in
theorem in_t7 {w : Cond} (h : w ∈ tables_1_7) : w ∈ lw_tbl := List.mem_append_right _ (List.mem_append_right _ (List.mem_append_right _ (List.mem_append_right _ (List.mem_append_right _ (List.mem_append_right _ (List.mem_append_right _ (List.mem_append_left _ h)))))))
set_option maxRecDepth 100000 in
theorem in_t8 {w : Cond} (h : w ∈ tables_1_8) : w ∈ lw_tbl := List.mem_append_right _ (List.mem_append_right _ (List.mem_append_right _ (List.mem_append_right _ (List.mem_append_right _ (List.mem_append_right _ (List.mem_append_right _ (List.mem_append_right _ (List.mem_append_left _ h))))))))
set_option maxRecDepth 100000 in
theorem in_t9 {w : Cond} (h : w ∈ tables_1_9) : w ∈ lw_tbl := List.mem_append_right _ (List.mem_append_right _ (List.mem_append_right _ (List.mem_append_right _ (List.mem_append_right _ (List.mem_append_right _ (List.mem_append_right _ (List.mem_append_right _ (List.mem_append_right _ (List.mem_append_left _ h)))))))))
set_option maxRecDepth 100000 in
theorem in_t10 {w : Cond} (h : w ∈ tables_1_10) : w ∈ lw_tbl := List.mem_append_right _ (List.mem_append_right _ (List.mem_append_right _ (List.mem_append_right _ (List.mem_append_right _ (List.mem_append_right _ (List.mem_append_right _ (List.mem_append_right _ (List.mem_append_right _ (List.mem_append_right _ (List.mem_append_left _ h))))))))))
set_option maxRecDepth 100000 in
theorem in_t11 {w : Cond} (h : w ∈ tables_1_11) : w ∈ lw_tbl := List.mem_append_right _ (List.mem_append_right _ (List.mem_append_right _ (List.mem_append_right _ (List.mem_append_right _ (List.mem_append_right _ (List.mem_append_right _ (List.mem_append_right _ (List.mem_append_right _ (List.mem_append_right _ (List.mem_append_right _ (List.mem_append_left _ h)))))))))))
set_option maxRecDepth 100000 in
theorem in_t12 {w : Cond} (h : w ∈ tables_1_12) : w ∈ lw_tbl := List.mem_append_right _ (List.mem_append_right _ (List.mem_append_right _ (List.mem_append_right _ (List.mem_append_right _ (List.mem_append_right _ (List.mem_append_right _ (List.mem_append_right _ (List.mem_append_right _ (List.mem_append_right _ (List.mem_append_right _ (List.mem_append_right _ (List.mem_append_left _ h))))))))))))
set_option maxRecDepth 100000 in
theorem in_t13 {w : Cond} (h : w ∈ tables_1_13) : w ∈ lw_tbl := List.mem_append_right _ (List.mem_append_right _ (List.mem_append_right _ (List.mem_append_right _ (List.mem_append_right _ (List.mem_append_right _ (List.mem_append_right _ (List.mem_append_right _ (List.mem_append_right _ (List.mem_append_right _ (List.mem_append_right _ (List.mem_append_right _ (List.mem_append_right _ (h)))))))))))))
set_option maxRecDepth 100000 in
theorem in_p1 {q : MethodName × Nat} (h : q ∈ lw_privs_1) : Cond.selects q.1.cls q.1 q.1 ∈ lw_tbl := List.mem_append_left _ (List.mem_map.mpr ⟨q, (List.mem_append_left _ h), rfl⟩)
set_option maxRecDepth 100000 in
theorem in_p2 {q : MethodName × Nat} (h : q ∈ lw_privs_2) : Cond.selects q.1.cls q.1 q.1 ∈ lw_tbl := List.mem_append_left _ (List.mem_map.mpr ⟨q, (List.mem_append_right _ (List.mem_append_left _ h)), rfl⟩)
set_option maxRecDepth 100000 in
theorem in_p3 {q : MethodName × Nat} (h : q ∈ lw_privs_3) : Cond.selects q.1.cls q.1 q.1 ∈ lw_tbl := List.mem_append_left _ (List.mem_map.mpr ⟨q, (List.mem_append_right _ (List.mem_append_right _ (List.mem_append_left _ h))), rfl⟩)
set_option maxRecDepth 100000 in
theorem in_p4 {q : MethodName × Nat} (h : q ∈ lw_privs_4) : Cond.selects q.1.cls q.1 q.1 ∈ lw_tbl := List.mem_append_left _ (List.mem_map.mpr ⟨q, (List.mem_append_right _ (List.mem_append_right _ (List.mem_append_right _ (List.mem_append_left _ h)))), rfl⟩)
set_option maxRecDepth 100000 in
theorem in_p5 {q : MethodName × Nat} (h : q ∈ lw_privs_5) : Cond.selects q.1.cls q.1 q.1 ∈ lw_tbl := List.mem_append_left _ (List.mem_map.mpr ⟨q, (List.mem_append_right _ (List.mem_append_right _ (List.mem_append_right _ (List.mem_append_right _ (List.mem_append_left _ h))))), rfl⟩)
set_option maxRecDepth 100000 in
theorem in_p6 {q : MethodName × Nat} (h : q ∈ lw_privs_6) : Cond.selects q.1.cls q.1 q.1 ∈ lw_tbl := List.mem_append_left _ (List.mem_map.mpr ⟨q, (List.mem_append_right _ (List.mem_append_right _ (List.mem_append_right _ (List.mem_append_right _ (List.mem_append_right _ (List.mem_append_left _ h)))))), rfl⟩)
set_option maxRecDepth 100000 in
theorem in_p7 {q : MethodName × Nat} (h : q ∈ lw_privs_7) : Cond.selects q.1.cls q.1 q.1 ∈ lw_tbl := List.mem_append_left _ (List.mem_map.mpr ⟨q, (List.mem_append_right _ (List.mem_append_right _ (List.mem_append_right _ (List.mem_append_right _ (List.mem_append_right _ (List.mem_append_right _ (List.mem_append_left _ h))))))), rfl⟩)
set_option maxRecDepth 100000 in
theorem in_p8 {q : MethodName × Nat} (h : q ∈ lw_privs_8) : Cond.selects q.1.cls q.1 q.1 ∈ lw_tbl := List.mem_append_left _ (List.mem_map.mpr ⟨q, (List.mem_append_right _ (List.mem_append_right _ (List.mem_append_right _ (List.mem_append_right _ (List.mem_append_right _ (List.mem_append_right _ (List.mem_append_right _ (List.mem_append_left _ h)))))))), rfl⟩)
set_option maxRecDepth 100000 in
theorem in_p9 {q : MethodName × Nat} (h : q ∈ lw_privs_9) : Cond.selects q.1.cls q.1 q.1 ∈ lw_tbl := List.mem_append_left _ (List.mem_map.mpr ⟨q, (List.mem_append_right _ (List.mem_append_right _ (List.mem_append_right _ (List.mem_append_right _ (List.mem_append_right _ (List.mem_append_right _ (List.mem_append_right _ (List.mem_append_right _ (List.mem_append_left _ h))))))))), rfl⟩)
set_option maxRecDepth 100000 in
theorem in_p10 {q : MethodName × Nat} (h : q ∈ lw_privs_10) : Cond.selects q.1.cls q.1 q.1 ∈ lw_tbl := List.mem_append_left _ (List.mem_map.mpr ⟨q, (List.mem_append_right _ (List.mem_append_right _ (List.mem_append_right _ (List.mem_append_right _ (List.mem_append_right _ (List.mem_append_right _ (List.mem_append_right _ (List.mem_append_right _ (List.mem_append_right _ (List.mem_append_left _ h)))))))))), rfl⟩)
set_option maxRecDepth 100000 in
theorem in_p11 {q : MethodName × Nat} (h : q ∈ lw_privs_11) : Cond.selects q.1.cls q.1 q.1 ∈ lw_tbl := List.mem_append_left _ (List.mem_map.mpr ⟨q, (List.mem_append_right _ (List.mem_append_right _ (List.mem_append_right _ (List.mem_append_right _ (List.mem_append_right _ (List.mem_append_right _ (List.mem_append_right _ (List.mem_append_right _ (List.mem_append_right _ (List.mem_append_right _ (List.mem_append_left _ h))))))))))), rfl⟩)
set_option maxRecDepth 100000 in
theorem in_p12 {q : MethodName × Nat} (h : q ∈ lw_privs_12) : Cond.selects q.1.cls q.1 q.1 ∈ lw_tbl := List.mem_append_left _ (List.mem_map.mpr ⟨q, (List.mem_append_right _ (List.mem_append_right _ (List.mem_append_right _ (List.mem_append_right _ (List.mem_append_right _ (List.mem_append_right _ (List.mem_append_right _ (List.mem_append_right _ (List.mem_append_right _ (List.mem_append_right _ (List.mem_append_right _ (List.mem_append_left _ h)))))))))))), rfl⟩)
set_option maxRecDepth 100000 in
theorem in_p13 {q : MethodName × Nat} (h : q ∈ lw_privs_13) : Cond.selects q.1.cls q.1 q.1 ∈ lw_tbl := List.mem_append_left _ (List.mem_map.mpr ⟨q, (List.mem_append_right _ (List.mem_append_right _ (List.mem_append_right _ (List.mem_append_right _ (List.mem_append_right _ (List.mem_append_right _ (List.mem_append_right _ (List.mem_append_right _ (List.mem_append_right _ (List.mem_append_right _ (List.mem_append_right _ (List.mem_append_right _ (List.mem_append_left _ h))))))))))))), rfl⟩)
set_option maxRecDepth 100000 in
theorem in_p14 {q : MethodName × Nat} (h : q ∈ lw_privs_14) : Cond.selects q.1.cls q.1 q.1 ∈ lw_tbl := List.mem_append_left _ (List.mem_map.mpr ⟨q, (List.mem_append_right _ (List.mem_append_right _ (List.mem_append_right _ (List.mem_append_right _ (List.mem_append_right _ (List.mem_append_right _ (List.mem_append_right _ (List.mem_append_right _ (List.mem_append_right _ (List.mem_append_right _ (List.mem_append_right _ (List.mem_append_right _ (List.mem_append_right _ (List.mem_append_left _ h)))))))))))))), rfl⟩)
set_option maxRecDepth 100000 in
theorem in_p15 {q : MethodName × Nat} (h : q ∈ lw_privs_15) : Cond.selects q.1.cls q.1 q.1 ∈ lw_tbl := List.mem_append_left _ (List.mem_map.mpr ⟨q, (List.mem_append_right _ (List.mem_append_right _ (List.mem_append_right _ (List.mem_append_right _ (List.mem_append_right _ (List.mem_append_right _ (List.mem_append_right _ (List.mem_append_right _ (List.mem_append_right _ (List.mem_append_right _ (List.mem_append_right _ (List.mem_append_right _ (List.mem_append_right _ (List.mem_append_right _ (List.mem_append_left _ h))))))))))))))), rfl⟩)
set_option maxRecDepth 100000 in
theorem in_p16 {q : MethodName × Nat} (h : q ∈ lw_privs_16) : Cond.selects q.1.cls q.1 q.1 ∈ lw_tbl := List.mem_append_left _ (List.mem_map.mpr ⟨q, (List.mem_append_right _ (List.mem_append_right _ (List.mem_append_right _ (List.mem_append_right _ (List.mem_append_right _ (List.mem_append_right _ (List.mem_append_right _ (List.mem_append_right _ (List.mem_append_right _ (List.mem_append_right _ (List.mem_append_right _ (List.mem_append_right _ (List.mem_append_right _ (List.mem_append_right _ (List.mem_append_right _ (List.mem_append_left _ h)))))))))))))))), rfl⟩)
set_option maxRecDepth 100000 in
theorem in_p17 {q : MethodName × Nat} (h : q ∈ lw_privs_17) : Cond.selects q.1.cls q.1 q.1 ∈ lw_tbl := List.mem_append_left _ (List.mem_map.mpr ⟨q, (List.mem_append_right _ (List.mem_append_right _ (List.mem_append_right _ (List.mem_append_right _ (List.mem_append_right _ (List.mem_append_right _ (List.mem_append_right _ (List.mem_append_right _ (List.mem_append_right _ (List.mem_append_right _ (List.mem_append_right _ (List.mem_append_right _ (List.mem_append_right _ (List.mem_append_right _ (List.mem_append_right _ (List.mem_append_right _ (List.mem_append_left _ h))))))))))))))))), rfl⟩)
set_option maxRecDepth 100000 in
theorem in_p18 {q : MethodName × Nat} (h : q ∈ lw_privs_18) : Cond.selects q.1.cls q.1 q.1 ∈ lw_tbl := List.mem_append_left _ (List.mem_map.mpr ⟨q, (List.mem_append_right _ (List.mem_append_right _ (List.mem_append_right _ (List.mem_append_right _ (List.mem_append_right _ (List.mem_append_right _ (List.mem_append_right _ (List.mem_append_right _ (List.mem_append_right _ (List.mem_append_right _ (List.mem_append_right _ (List.mem_append_right _ (List.mem_append_right _ (List.mem_append_right _ (List.mem_append_right _ (List.mem_append_right _ (List.mem_append_right _ (List.mem_append_left _ h)))))))))))))))))), rfl⟩)
set_option maxRecDepth 100000 in
theorem in_p19 {q : MethodName × Nat} (h : q ∈ lw_privs_19) : Cond.selects q.1.cls q.1 q.1 ∈ lw_tbl := List.mem_append_left _ (List.mem_map.mpr ⟨q, (List.mem_append_right _ (List.mem_append_right _ (List.mem_append_right _ (List.mem_append_right _ (List.mem_append_right _ (List.mem_append_right _ (List.mem_append_right _ (List.mem_append_right _ (List.mem_append_right _ (List.mem_append_right _ (List.mem_append_right _ (List.mem_append_right _ (List.mem_append_right _ (List.mem_append_right _ (List.mem_append_right _ (List.mem_append_right _ (List.mem_append_right _ (List.mem_append_right _ (List.mem_append_left _ h))))))))))))))))))), rfl⟩)
set_option maxRecDepth 100000 in
theorem in_p20 {q : MethodName × Nat} (h : q ∈ lw_privs_20) : Cond.selects q.1.cls q.1 q.1 ∈ lw_tbl := List.mem_append_left _ (List.mem_map.mpr ⟨q, (List.mem_append_right _ (List.mem_append_right _ (List.mem_append_right _ (List.mem_append_right _ (List.mem_append_right _ (List.mem_append_right _ (List.mem_append_right _ (List.mem_append_right _ (List.mem_append_right _ (List.mem_append_right _ (List.mem_append_right _ (List.mem_append_right _ (List.mem_append_right _ (List.mem_append_right _ (List.mem_append_right _ (List.mem_append_right _ (List.mem_append_right _ (List.mem_append_right _ (List.mem_append_right _ (List.mem_append_left _ h)))))))))))))))))))), rfl⟩)
set_option maxRecDepth 100000 in
theorem in_p21 {q : MethodName × Nat} (h : q ∈ lw_privs_21) : Cond.selects q.1.cls q.1 q.1 ∈ lw_tbl := List.mem_append_left _ (List.mem_map.mpr ⟨q, (List.mem_append_right _ (List.mem_append_right _ (List.mem_append_right _ (List.mem_append_right _ (List.mem_append_right _ (List.mem_append_right _ (List.mem_append_right _ (List.mem_append_right _ (List.mem_append_right _ (List.mem_append_right _ (List.mem_append_right _ (List.mem_append_right _ (List.mem_append_right _ (List.mem_append_right _ (List.mem_append_right _ (List.mem_append_right _ (List.mem_append_right _ (List.mem_append_right _ (List.mem_append_right _ (List.mem_append_right _ (List.mem_append_left _ h))))))))))))))))))))), rfl⟩)
set_option maxRecDepth 100000 in
theorem in_p22 {q : MethodName × Nat} (h : q ∈ lw_privs_22) : Cond.selects q.1.cls q.1 q.1 ∈ lw_tbl := List.mem_append_left _ (List.mem_map.mpr ⟨q, (List.mem_append_right _ (List.mem_append_right _ (List.mem_append_right _ (List.mem_append_right _ (List.mem_append_right _ (List.mem_append_right _ (List.mem_append_right _ (List.mem_append_right _ (List.mem_append_right _ (List.mem_append_right _ (List.mem_append_right _ (List.mem_append_right _ (List.mem_append_right _ (List.mem_append_right _ (List.mem_append_right _ (List.mem_append_right _ (List.mem_append_right _ (List.mem_append_right _ (List.mem_append_right _ (List.mem_append_right _ (List.mem_append_right _ (List.mem_append_left _ h)))))))))))))))))))))), rfl⟩)
set_option maxRecDepth 100000 in
theorem in_p23 {q : MethodName × Nat} (h : q ∈ lw_privs_23) : Cond.selects q.1.cls q.1 q.1 ∈ lw_tbl := List.mem_append_left _ (List.mem_map.mpr ⟨q, (List.mem_append_right _ (List.mem_append_right _ (List.mem_append_right _ (List.mem_append_right _ (List.mem_append_right _ (List.mem_append_right _ (List.mem_append_right _ (List.mem_append_right _ (List.mem_append_right _ (List.mem_append_right _ (List.mem_append_right _ (List.mem_append_right _ (List.mem_append_right _ (List.mem_append_right _ (List.mem_append_right _ (List.mem_append_right _ (List.mem_append_right _ (List.mem_append_right _ (List.mem_append_right _ (List.mem_append_right _ (List.mem_append_right _ (List.mem_append_right _ (List.mem_append_left _ h))))))))))))))))))))))), rfl⟩)
set_option maxRecDepth 100000 in
theorem in_p24 {q : MethodName × Nat} (h : q ∈ lw_privs_24) : Cond.selects q.1.cls q.1 q.1 ∈ lw_tbl := List.mem_append_left _ (List.mem_map.mpr ⟨q, (List.mem_append_right _ (List.mem_append_right _ (List.mem_append_right _ (List.mem_append_right _ (List.mem_append_right _ (List.mem_append_right _ (List.mem_append_right _ (List.mem_append_right _ (List.mem_append_right _ (List.mem_append_right _ (List.mem_append_right _ (List.mem_append_right _ (List.mem_append_right _ (List.mem_append_right _ (List.mem_append_right _ (List.mem_append_right _ (List.mem_append_right _ (List.mem_append_right _ (List.mem_append_right _ (List.mem_append_right _ (List.mem_append_right _ (List.mem_append_right _ (List.mem_append_right _ (List.mem_append_left _ h)))))))))))))))))))))))), rfl⟩)
set_option maxRecDepth 100000 in
theorem in_p25 {q : MethodName × Nat} (h : q ∈ lw_privs_25) : Cond.selects q.1.cls q.1 q.1 ∈ lw_tbl := List.mem_append_left _ (List.mem_map.mpr ⟨q, (List.mem_append_right _ (List.mem_append_right _ (List.mem_append_right _ (List.mem_append_right _ (List.mem_append_right _ (List.mem_append_right _ (List.mem_append_right _ (List.mem_append_right _ (List.mem_append_right _ (List.mem_append_right _ (List.mem_append_right _ (List.mem_append_right _ (List.mem_append_right _ (List.mem_append_right _ (List.mem_append_right _ (List.mem_append_right _ (List.mem_append_right _ (List.mem_append_right _ (List.mem_append_right _ (List.mem_append_right _ (List.mem_append_right _ (List.mem_append_right _ (List.mem_append_right _ (List.mem_append_right _ (List.mem_append_left _ h))))))))))))))))))))))))), rfl⟩)
set_option maxRecDepth 100000 in
theorem in_p26 {q : MethodName × Nat} (h : q ∈ lw_privs_26) : Cond.selects q.1.cls q.1 q.1 ∈ lw_tbl := List.mem_append_left _ (List.mem_map.mpr ⟨q, (List.mem_append_right _ (List.mem_append_right _ (List.mem_append_right _ (List.mem_append_right _ (List.mem_append_right _ (List.mem_append_right _ (List.mem_append_right _ (List.mem_append_right _ (List.mem_append_right _ (List.mem_append_right _ (List.mem_append_right _ (List.mem_append_right _ (List.mem_append_right _ (List.mem_append_right _ (List.mem_append_right _ (List.mem_append_right _ (List.mem_append_right _ (List.mem_append_right _ (List.mem_append_right _ (List.mem_append_right _ (List.mem_append_right _ (List.mem_append_right _ (List.mem_append_right _ (List.mem_append_right _ (List.mem_append_right _ (List.mem_append_left _ h)))))))))))))))))))))))))), rfl⟩)
set_option maxRecDepth 100000 in
theorem in_p27 {q : MethodName × Nat} (h : q ∈ lw_privs_27) : Cond.selects q.1.cls q.1 q.1 ∈ lw_tbl := List.mem_append_left _ (List.mem_map.mpr ⟨q, (List.mem_append_right _ (List.mem_append_right _ (List.mem_append_right _ (List.mem_append_right _ (List.mem_append_right _ (List.mem_append_right _ (List.mem_append_right _ (List.mem_append_right _ (List.mem_append_right _ (List.mem_append_right _ (List.mem_append_right _ (List.mem_append_right _ (List.mem_append_right _ (List.mem_append_right _ (List.mem_append_right _ (List.mem_append_right _ (List.mem_append_right _ (List.mem_append_right _ (List.mem_append_right _ (List.mem_append_right _ (List.mem_append_right _ (List.mem_append_right _ (List.mem_append_right _ (List.mem_append_right _ (List.mem_append_right _ (List.mem_append_right _ (h))))))))))))))))))))))))))), rfl⟩)
def WB_0 : List Cond := [.classLink RL 7 RX10, .instantiable RX10 11, .initialized RX10, .methodLink RX10 1 Lib.objectInit, .instanceMethod Lib.objectInit, .code Lib.objectInit ⟨#[0xb1]⟩ 1 none, .classLink RX10 7 RX7, .instantiable RX7 5, .initialized RX7, .methodLink RX7 3 Lib.objectInit, .fieldLink RX7 9 "ArrayHouse$State" "origin" "I", .fieldLink RX7 15 "ArrayHouse$State" "link" "I", .code yX7_init cX7_init 1 none, .instanceMethod yX7_init, .fieldLink RX10 10 "ArrayHouse" "state" "LArrayHouse$State;", .classLink RX10 16 RX1, .instantiable RX1 9, .initialized RX1, .methodLink RX1 3 Lib.objectInit, .arrayClass .int, .fieldLink RX1 9 "ArrayHouse$Heap" "shape" "[I", .fieldLink RX1 15 "ArrayHouse$Heap" "words" "[I", .fieldLink RX1 18 "ArrayHouse$Heap" "spare" "[I", .fieldLink RX1 21 "ArrayHouse$Heap" "top" "I", .fieldLink RX1 25 "ArrayHouse$Heap" "base" "I", .fieldLink RX1 28 "ArrayHouse$Heap" "fillD" "I", .fieldLink RX1 31 "ArrayHouse$Heap" "state" "LArrayHouse$State;", .code yX1_init cX1_init 2 none, .instanceMethod yX1_init, .fieldLink RX10 21 "ArrayHouse" "heap" "LArrayHouse$Heap;", .classLink RX10 25 RX8, .instantiable RX8 8]
def WB_1 : List Cond := [.initialized RX8, .methodLink RX8 3 Lib.objectInit, .arrayClass .byte, .fieldLink RX8 9 "ArrayHouse$Text" "kept" "[B", .fieldLink RX8 15 "ArrayHouse$Text" "bytes" "[B", .fieldLink RX8 18 "ArrayHouse$Text" "tokens" "[I", .fieldLink RX8 22 "ArrayHouse$Text" "lastMade" "I", .code yX8_init cX8_init 1 none, .instanceMethod yX8_init, .fieldLink RX10 28 "ArrayHouse" "text" "LArrayHouse$Text;", .classLink RX10 32 RX3, .instantiable RX3 16, .initialized RX3, .methodLink RX3 3 Lib.objectInit, .fieldLink RX3 11 "ArrayHouse$Places" "nameA" "[I", .fieldLink RX3 15 "ArrayHouse$Places" "nameB" "[I", .fieldLink RX3 18 "ArrayHouse$Places" "means" "[I", .fieldLink RX3 21 "ArrayHouse$Places" "from" "[I", .fieldLink RX3 24 "ArrayHouse$Places" "to" "[I", .fieldLink RX3 27 "ArrayHouse$Places" "used" "[I", .fieldLink RX3 30 "ArrayHouse$Places" "around" "[I", .fieldLink RX3 33 "ArrayHouse$Places" "left" "[I", .fieldLink RX3 36 "ArrayHouse$Places" "right" "[I", .fieldLink RX3 39 "ArrayHouse$Places" "self" "[I", .fieldLink RX3 42 "ArrayHouse$Places" "guards" "[I", .fieldLink RX3 45 "ArrayHouse$Places" "state" "LArrayHouse$State;", .fieldLink RX3 49 "ArrayHouse$Places" "heap" "LArrayHouse$Heap;", .fieldLink RX3 53 "ArrayHouse$Places" "text" "LArrayHouse$Text;", .code yX3_init cX3_init 4 none, .instanceMethod yX3_init, .fieldLink RX10 37 "ArrayHouse" "places" "LArrayHouse$Places;", .classLink RX10 41 RX9]
def WB_2 : List Cond := [.instantiable RX9 4, .initialized RX9, .methodLink RX9 3 Lib.objectInit, .fieldLink RX9 9 "ArrayHouse$Writer" "heap" "LArrayHouse$Heap;", .methodLink RX9 15 Lib.Math.max.name, .static Lib.Math.max.name, .initialized "java/lang/Math", .code Lib.Math.max.name Lib.Math.max.code 2 (some .int), .fieldLink RX9 21 "ArrayHouse$Writer" "row" "[B", .code yX9_init cX9_init 3 none, .instanceMethod yX9_init, .fieldLink RX10 46 "ArrayHouse" "screen" "LArrayHouse$Writer;", .fieldLink RX10 50 "ArrayHouse" "tape" "[B", .fieldLink RX10 54 "ArrayHouse" "path" "[I", .fieldLink RX10 58 "ArrayHouse" "eventAt" "I", .classLink RX10 62 RX6, .instantiable RX6 5, .initialized RX6, .methodLink RX6 3 Lib.objectInit, .fieldLink RX6 9 "ArrayHouse$Shapes" "rows" "[I", .fieldLink RX6 15 "ArrayHouse$Shapes" "turn" "[I", .fieldLink RX6 18 "ArrayHouse$Shapes" "place" "[I", .fieldLink RX6 21 "ArrayHouse$Shapes" "state" "LArrayHouse$State;", .fieldLink RX6 25 "ArrayHouse$Shapes" "heap" "LArrayHouse$Heap;", .code yX6_init cX6_init 3 none, .instanceMethod yX6_init, .classLink RX10 67 RX2, .instantiable RX2 5, .initialized RX2, .methodLink RX2 3 Lib.objectInit, .fieldLink RX2 9 "ArrayHouse$Operators" "state" "LArrayHouse$State;", .fieldLink RX2 15 "ArrayHouse$Operators" "heap" "LArrayHouse$Heap;"]
def WB_3 : List Cond := [.fieldLink RX2 19 "ArrayHouse$Operators" "places" "LArrayHouse$Places;", .fieldLink RX2 23 "ArrayHouse$Operators" "shapes" "LArrayHouse$Shapes;", .code yX2_init cX2_init 5 none, .instanceMethod yX2_init, .classLink RX10 72 RX4, .instantiable RX4 13, .initialized RX4, .methodLink RX4 3 Lib.objectInit, .fieldLink RX4 9 "ArrayHouse$Reader" "rows" "[I", .fieldLink RX4 15 "ArrayHouse$Reader" "state" "LArrayHouse$State;", .fieldLink RX4 19 "ArrayHouse$Reader" "heap" "LArrayHouse$Heap;", .fieldLink RX4 23 "ArrayHouse$Reader" "text" "LArrayHouse$Text;", .fieldLink RX4 27 "ArrayHouse$Reader" "places" "LArrayHouse$Places;", .fieldLink RX4 31 "ArrayHouse$Reader" "shapes" "LArrayHouse$Shapes;", .fieldLink RX4 35 "ArrayHouse$Reader" "operators" "LArrayHouse$Operators;", .classLink RX4 39 RX5, .instantiable RX5 4, .initialized RX5, .methodLink RX5 3 Lib.objectInit, .fieldLink RX5 9 "ArrayHouse$Scalars" "state" "LArrayHouse$State;", .fieldLink RX5 15 "ArrayHouse$Scalars" "heap" "LArrayHouse$Heap;", .code yX5_init cX5_init 3 none, .instanceMethod yX5_init, .fieldLink RX4 44 "ArrayHouse$Reader" "scalars" "LArrayHouse$Scalars;", .classLink RX4 48 RX0, .instantiable RX0 6, .initialized RX0, .methodLink RX0 3 Lib.objectInit, .fieldLink RX0 9 "ArrayHouse$Finds" "rows" "[I", .fieldLink RX0 15 "ArrayHouse$Finds" "other" "[I", .fieldLink RX0 18 "ArrayHouse$Finds" "state" "LArrayHouse$State;", .fieldLink RX0 22 "ArrayHouse$Finds" "heap" "LArrayHouse$Heap;"]
def WB_4 : List Cond := [.fieldLink RX0 26 "ArrayHouse$Finds" "scalars" "LArrayHouse$Scalars;", .classLink RX0 30 RX9, .fieldLink RX0 35 "ArrayHouse$Finds" "writer" "LArrayHouse$Writer;", .code yX0_init cX0_init 4 none, .instanceMethod yX0_init, .fieldLink RX4 53 "ArrayHouse$Reader" "finds" "LArrayHouse$Finds;", .code yX4_init cX4_init 7 none, .instanceMethod yX4_init, .fieldLink RX10 77 "ArrayHouse" "reader" "LArrayHouse$Reader;", .code yX10_init cX10_init 3 none, .methodLink RL 9 yX10_init, .instanceMethod yX10_init, .classLink RL 10 RX11, .instantiable RX11 76, .initialized RX11, .methodLink RX11 900 Lib.objectInit, .fieldLink RX11 177 "ArrayHouseModel" "origin" "I", .fieldLink RX11 151 "ArrayHouseModel" "link" "J", .constant RX11 906 2200000, .fieldLink RX11 11 "ArrayHouseModel" "mem" "[I", .constant RX11 907 1000000, .fieldLink RX11 908 "ArrayHouseModel" "kept" "[I", .fieldLink RX11 35 "ArrayHouseModel" "top" "I", .fieldLink RX11 52 "ArrayHouseModel" "shape" "[I", .fieldLink RX11 22 "ArrayHouseModel" "itemD" "I", .fieldLink RX11 286 "ArrayHouseModel" "spots" "[I", .fieldLink RX11 304 "ArrayHouseModel" "spotsToo" "[I", .fieldLink RX11 96 "ArrayHouseModel" "fills" "[I", .fieldLink RX11 333 "ArrayHouseModel" "said" "[B", .fieldLink RX11 340 "ArrayHouseModel" "spoken" "[B", .constant RX11 911 130000, .fieldLink RX11 530 "ArrayHouseModel" "wait" "[I"]
def WB_5 : List Cond := [.constant RX11 912 60000, .fieldLink RX11 556 "ArrayHouseModel" "bytes" "[B", .fieldLink RX11 559 "ArrayHouseModel" "kind" "[I", .fieldLink RX11 565 "ArrayHouseModel" "low" "[I", .fieldLink RX11 568 "ArrayHouseModel" "high" "[I", .fieldLink RX11 571 "ArrayHouseModel" "from" "[I", .fieldLink RX11 574 "ArrayHouseModel" "to" "[I", .fieldLink RX11 580 "ArrayHouseModel" "partner" "[I", .fieldLink RX11 583 "ArrayHouseModel" "literal" "[I", .fieldLink RX11 653 "ArrayHouseModel" "meant" "[I", .fieldLink RX11 656 "ArrayHouseModel" "nameLow" "[I", .fieldLink RX11 659 "ArrayHouseModel" "nameHigh" "[I", .fieldLink RX11 683 "ArrayHouseModel" "meaning" "[I", .fieldLink RX11 689 "ArrayHouseModel" "funcFrom" "[I", .fieldLink RX11 692 "ArrayHouseModel" "funcTo" "[I", .fieldLink RX11 668 "ArrayHouseModel" "textFrom" "[I", .fieldLink RX11 671 "ArrayHouseModel" "textMany" "[I", .fieldLink RX11 677 "ArrayHouseModel" "texts" "[B", .fieldLink RX11 665 "ArrayHouseModel" "frameAround" "[I", .fieldLink RX11 774 "ArrayHouseModel" "frameLeft" "[I", .fieldLink RX11 777 "ArrayHouseModel" "frameRight" "[I", .fieldLink RX11 837 "ArrayHouseModel" "frameSelf" "[I", .fieldLink RX11 786 "ArrayHouseModel" "chosenAt" "I", .fieldLink RX11 795 "ArrayHouseModel" "chosenName" "[I", .fieldLink RX11 801 "ArrayHouseModel" "chosenOwn" "[I", .fieldLink RX11 891 "ArrayHouseModel" "guardMask" "[I", .fieldLink RX11 885 "ArrayHouseModel" "guardFrom" "[I", .fieldLink RX11 888 "ArrayHouseModel" "guardTo" "[I", .fieldLink RX11 913 "ArrayHouseModel" "tape" "[B", .fieldLink RX11 916 "ArrayHouseModel" "atStatement" "I", .fieldLink RX11 919 "ArrayHouseModel" "view" "[I", .code yX11_init cX11_init 1 none]
def WB_6 : List Cond := [.methodLink RL 12 yX11_init, .instanceMethod yX11_init, .fieldLink RX10 82 "ArrayHouse" "tapeLength" "I", .code yX10_append cX10_append 3 none, .methodLink RX10 85 yX10_append, .instanceMethod yX10_append, .selects RX10 yX10_append yX10_append, .code yX10_feed cX10_feed 6 (some .int), .methodLink RL 13 yX10_feed, .instanceMethod yX10_feed, .selects RX10 yX10_feed yX10_feed, .fieldLink RX11 922 "ArrayHouseModel" "taped" "I", .code yX11_feed cX11_feed 8 (some .int), .methodLink RL 17 yX11_feed, .instanceMethod yX11_feed, .selects RX11 yX11_feed yX11_feed, .code yX10_trim cX10_trim 2 (some .int), .methodLink RL 18 yX10_trim, .instanceMethod yX10_trim, .selects RX10 yX10_trim yX10_trim, .code yX11_trim cX11_trim 2 (some .int), .methodLink RL 22 yX11_trim, .instanceMethod yX11_trim, .selects RX11 yX11_trim yX11_trim, .fieldLink RX10 92 "ArrayHouse" "pathLength" "I", .fieldLink RX7 18 "ArrayHouse$State" "event" "I", .fieldLink RX7 21 "ArrayHouse$State" "spent" "I", .fieldLink RX7 24 "ArrayHouse$State" "open" "I", .code yX7_begin cX7_begin 1 none, .instanceMethod yX7_begin, .selects RX7 yX7_begin yX7_begin, .methodLink RX1 47 Lib.Math.max.name]
def WB_7 : List Cond := [.fieldLink RX1 182 "ArrayHouse$Heap" "spareTop" "I", .code yX1_unsettle cX1_unsettle 2 none, .instanceMethod yX1_unsettle, .selects RX1 yX1_unsettle yX1_unsettle, .code yX1_moved cX1_moved 9 (some .int), .instanceMethod yX1_moved, .selects RX1 yX1_moved yX1_moved, .fieldLink RX3 76 "ArrayHouse$Places" "deepest" "I", .code yX3_firstSlot cX3_firstSlot 2 (some .int), .methodLink RX3 61 yX3_firstSlot, .instanceMethod yX3_firstSlot, .selects RX3 yX3_firstSlot yX3_firstSlot, .code yX10_peek cX10_peek 2 (some .int), .static yX10_peek, .fieldLink RX8 35 "ArrayHouse$Text" "count" "I", .code yX8_unmake cX8_unmake 4 none, .instanceMethod yX8_unmake, .selects RX8 yX8_unmake yX8_unmake, .methodLink RX1 185 arraycopyName, .native arraycopyName, .static arraycopyName, .initialized "java/lang/System", .code yX1_settle cX1_settle 1 none, .instanceMethod yX1_settle, .selects RX1 yX1_settle yX1_settle, .code yX3_pack cX3_pack 8 (some .int), .instanceMethod yX3_pack, .selects RX3 yX3_pack yX3_pack, .code yX3_meansAt cX3_meansAt 2 (some .int), .instanceMethod yX3_meansAt, .selects RX3 yX3_meansAt yX3_meansAt, .code yX10_keepHouse cX10_keepHouse 4 none]
def WB_8 : List Cond := [.methodLink RX10 98 yX10_keepHouse, .instanceMethod yX10_keepHouse, .selects RX10 yX10_keepHouse yX10_keepHouse, .fieldLink RX8 49 "ArrayHouse$Text" "innermost" "I", .fieldLink RX8 26 "ArrayHouse$Text" "length" "I", .code yX8_scan cX8_scan 5 (some .int), .instanceMethod yX8_scan, .selects RX8 yX8_scan yX8_scan, .code yX8_firstOf cX8_firstOf 7 (some .int), .methodLink RX8 151 yX8_firstOf, .instanceMethod yX8_firstOf, .selects RX8 yX8_firstOf yX8_firstOf, .code yX8_statementEnd cX8_statementEnd 3 (some .int), .instanceMethod yX8_statementEnd, .selects RX8 yX8_statementEnd yX8_statementEnd, .code yX1_size cX1_size 2 (some .int), .instanceMethod yX1_size, .selects RX1 yX1_size yX1_size, .code yX3_keep cX3_keep 3 (some .int), .instanceMethod yX3_keep, .selects RX3 yX3_keep yX3_keep, .code yX10_statements cX10_statements 8 none, .methodLink RX10 112 yX10_statements, .instanceMethod yX10_statements, .selects RX10 yX10_statements yX10_statements, .code yX10_run cX10_run 4 (some .int), .methodLink RL 23 yX10_run, .instanceMethod yX10_run, .selects RX10 yX10_run yX10_run, .fieldLink RX11 1 "ArrayHouseModel" "event" "I", .fieldLink RX11 7 "ArrayHouseModel" "steps" "I", .fieldLink RX11 439 "ArrayHouseModel" "open" "I"]
def WB_9 : List Cond := [.fieldLink RX11 527 "ArrayHouseModel" "waits" "I", .fieldLink RX11 873 "ArrayHouseModel" "guards" "I", .fieldLink RX11 798 "ArrayHouseModel" "choosing" "I", .fieldLink RX11 562 "ArrayHouseModel" "tokens" "I", .fieldLink RX11 330 "ArrayHouseModel" "saidMany" "I", .fieldLink RX11 925 "ArrayHouseModel" "views" "I", .fieldLink RX11 695 "ArrayHouseModel" "byteTop" "I", .fieldLink RX11 577 "ArrayHouseModel" "at" "I", .fieldLink RX11 553 "ArrayHouseModel" "end" "I", .fieldLink RX11 586 "ArrayHouseModel" "fault" "I", .code yX11_byteOf cX11_byteOf 2 (some .int), .methodLink RX11 589 yX11_byteOf, .instanceMethod yX11_byteOf, .selects RX11 yX11_byteOf yX11_byteOf, .code yX11_scan cX11_scan 7 (some .int), .methodLink RX11 698 yX11_scan, .instanceMethod yX11_scan, .selects RX11 yX11_scan yX11_scan, .code yX11_statementEnd cX11_statementEnd 4 (some .int), .methodLink RX11 897 yX11_statementEnd, .instanceMethod yX11_statementEnd, .selects RX11 yX11_statementEnd yX11_statementEnd, .fieldLink RX11 870 "ArrayHouseModel" "frames" "I", .code yX11_unframe cX11_unframe 3 none, .methodLink RX11 882 yX11_unframe, .instanceMethod yX11_unframe, .selects RX11 yX11_unframe yX11_unframe, .fieldLink RX11 934 "ArrayHouseModel" "keepTop" "I", .code yX11_settle cX11_settle 2 none, .methodLink RX11 931 yX11_settle, .instanceMethod yX11_settle, .selects RX11 yX11_settle yX11_settle]
def WB_10 : List Cond := [.code yX11_run cX11_run 5 (some .int), .methodLink RL 27 yX11_run, .instanceMethod yX11_run, .selects RX11 yX11_run yX11_run, .code yX10_at cX10_at 1 (some .int), .methodLink RL 28 yX10_at, .instanceMethod yX10_at, .selects RX10 yX10_at yX10_at, .code yX11_at cX11_at 1 (some .int), .methodLink RL 31 yX11_at, .instanceMethod yX11_at, .selects RX11 yX11_at yX11_at, .code yX10_steps cX10_steps 1 (some .int), .methodLink RL 32 yX10_steps, .instanceMethod yX10_steps, .selects RX10 yX10_steps yX10_steps, .code yX11_steps cX11_steps 1 (some .int), .methodLink RL 35 yX11_steps, .instanceMethod yX11_steps, .selects RX11 yX11_steps yX11_steps, .code yX10_shown cX10_shown 1 (some .int), .methodLink RL 36 yX10_shown, .instanceMethod yX10_shown, .selects RX10 yX10_shown yX10_shown, .code yX11_shown cX11_shown 1 (some .int), .methodLink RL 39 yX11_shown, .instanceMethod yX11_shown, .selects RX11 yX11_shown yX11_shown, .code yX10_byteAt cX10_byteAt 2 (some .int), .methodLink RL 40 yX10_byteAt, .instanceMethod yX10_byteAt, .selects RX10 yX10_byteAt yX10_byteAt]
def WB_11 : List Cond := [.code yX11_byteAt cX11_byteAt 2 (some .int), .methodLink RL 43 yX11_byteAt, .instanceMethod yX11_byteAt, .selects RX11 yX11_byteAt yX11_byteAt, .code yX10_nameOnTape cX10_nameOnTape 3 (some .int), .methodLink RX10 193 yX10_nameOnTape, .instanceMethod yX10_nameOnTape, .selects RX10 yX10_nameOnTape yX10_nameOnTape, .code yX10_view cX10_view 2 (some .int), .methodLink RL 44 yX10_view, .instanceMethod yX10_view, .selects RX10 yX10_view yX10_view, .code yX11_taken_ cX11_taken_ 4 (some .int), .methodLink RX11 940 yX11_taken_, .instanceMethod yX11_taken_, .selects RX11 yX11_taken_ yX11_taken_, .code yX11_view cX11_view 2 (some .int), .methodLink RL 47 yX11_view, .instanceMethod yX11_view, .selects RX11 yX11_view yX11_view, .code yX10_viewed cX10_viewed 1 (some .int), .methodLink RX10 213 yX10_viewed, .instanceMethod yX10_viewed, .selects RX10 yX10_viewed yX10_viewed, .code yX10_into cX10_into 3 (some .int), .methodLink RL 48 yX10_into, .instanceMethod yX10_into, .selects RX10 yX10_into yX10_into, .code yX11_into cX11_into 2 (some .int), .methodLink RL 51 yX11_into, .instanceMethod yX11_into, .selects RX11 yX11_into yX11_into]
def WB_12 : List Cond := [.code yX10_back cX10_back 1 (some .int), .methodLink RL 52 yX10_back, .instanceMethod yX10_back, .selects RX10 yX10_back yX10_back, .code yX11_back cX11_back 1 (some .int), .methodLink RL 55 yX11_back, .instanceMethod yX11_back, .selects RX11 yX11_back yX11_back, .code yX10_about cX10_about 3 (some .int), .methodLink RL 56 yX10_about, .instanceMethod yX10_about, .selects RX10 yX10_about yX10_about, .code yX11_about cX11_about 2 (some .int), .methodLink RL 59 yX11_about, .instanceMethod yX11_about, .selects RX11 yX11_about yX11_about, .code yX10_extent cX10_extent 3 (some .int), .methodLink RL 60 yX10_extent, .instanceMethod yX10_extent, .selects RX10 yX10_extent yX10_extent, .code yX11_extent_ cX11_extent_ 2 (some .int), .methodLink RL 63 yX11_extent_, .instanceMethod yX11_extent_, .selects RX11 yX11_extent_ yX11_extent_, .code yX10_kind cX10_kind 4 (some .int), .methodLink RL 64 yX10_kind, .instanceMethod yX10_kind, .selects RX10 yX10_kind yX10_kind, .code yX11_viewed cX11_viewed 2 (some .boolean), .methodLink RX11 949 yX11_viewed, .instanceMethod yX11_viewed, .selects RX11 yX11_viewed yX11_viewed]
def WB_13 : List Cond := [.code yX11_kind cX11_kind 2 (some .int), .methodLink RL 67 yX11_kind, .instanceMethod yX11_kind, .selects RX11 yX11_kind yX11_kind, .code yX10_number cX10_number 7 (some .int), .methodLink RL 68 yX10_number, .instanceMethod yX10_number, .selects RX10 yX10_number yX10_number, .code yX11_number_ cX11_number_ 3 (some .int), .methodLink RL 72 yX11_number_, .instanceMethod yX11_number_, .selects RX11 yX11_number_ yX11_number_, .code yX10_meaning cX10_meaning 4 (some .int), .methodLink RX10 241 yX10_meaning, .instanceMethod yX10_meaning, .selects RX10 yX10_meaning yX10_meaning, .code yX4_houseBytes cX4_houseBytes 3 (some .int), .instanceMethod yX4_houseBytes, .selects RX4 yX4_houseBytes yX4_houseBytes, .code yX10_sizes cX10_sizes 3 (some .int), .methodLink RX10 247 yX10_sizes, .instanceMethod yX10_sizes, .selects RX10 yX10_sizes yX10_sizes, .code yX10_told cX10_told 2 (some .int), .methodLink RL 73 yX10_told, .instanceMethod yX10_told, .selects RX10 yX10_told yX10_told, .fieldLink RX11 674 "ArrayHouseModel" "textTop" "I", .code yX11_told cX11_told 6 (some .int), .methodLink RL 76 yX11_told, .instanceMethod yX11_told, .selects RX11 yX11_told yX11_told]
def WB_14 : List Cond := [.code yX10_forget cX10_forget 3 (some .int), .methodLink RL 77 yX10_forget, .instanceMethod yX10_forget, .selects RX10 yX10_forget yX10_forget, .code yX11_forget cX11_forget 3 (some .int), .methodLink RL 80 yX11_forget, .instanceMethod yX11_forget, .selects RX11 yX11_forget yX11_forget, .constant RX10 259 2147483646, .code yX10_set cX10_set 4 (some .int), .methodLink RL 81 yX10_set, .instanceMethod yX10_set, .selects RX10 yX10_set yX10_set, .constantLong RX11 155 2147483647, .code yX11_set_ cX11_set_ 4 (some .int), .methodLink RL 85 yX11_set_, .instanceMethod yX11_set_, .selects RX11 yX11_set_ yX11_set_]
def WU : List Cond := wsX00 ++ (wsX10 ++ (wsX20 ++ (wsX30 ++ (wsX40 ++ (wsX50 ++ (wsX60 ++ (wsX70 ++ (wsX80 ++ (wsX90 ++ (wsX100 ++ (wsX110)))))))))))
def WA : List Cond := WB_0 ++ (WB_1 ++ (WB_2 ++ (WB_3 ++ (WB_4 ++ (WB_5 ++ (WB_6 ++ (WB_7 ++ (WB_8 ++ (WB_9 ++ (WB_10 ++ (WB_11 ++ (WB_12 ++ (WB_13 ++ (WB_14 ++ (WU)))))))))))))))
set_option maxRecDepth 100000 in
theorem inB_0 {w : Cond} (h : w ∈ WB_0) : w ∈ WA := (List.mem_append_left _ h)
set_option maxRecDepth 100000 in
theorem inB_1 {w : Cond} (h : w ∈ WB_1) : w ∈ WA := (List.mem_append_right _ (List.mem_append_left _ h))
set_option maxRecDepth 100000 in
theorem inB_2 {w : Cond} (h : w ∈ WB_2) : w ∈ WA := (List.mem_append_right _ (List.mem_append_right _ (List.mem_append_left _ h)))
set_option maxRecDepth 100000 in
theorem inB_3 {w : Cond} (h : w ∈ WB_3) : w ∈ WA := (List.mem_append_right _ (List.mem_append_right _ (List.mem_append_right _ (List.mem_append_left _ h))))
set_option maxRecDepth 100000 in
theorem inB_4 {w : Cond} (h : w ∈ WB_4) : w ∈ WA := (List.mem_append_right _ (List.mem_append_right _ (List.mem_append_right _ (List.mem_append_right _ (List.mem_append_left _ h)))))
set_option maxRecDepth 100000 in
theorem inB_5 {w : Cond} (h : w ∈ WB_5) : w ∈ WA := (List.mem_append_right _ (List.mem_append_right _ (List.mem_append_right _ (List.mem_append_right _ (List.mem_append_right _ (List.mem_append_left _ h))))))
set_option maxRecDepth 100000 in
theorem inB_6 {w : Cond} (h : w ∈ WB_6) : w ∈ WA := (List.mem_append_right _ (List.mem_append_right _ (List.mem_append_right _ (List.mem_append_right _ (List.mem_append_right _ (List.mem_append_right _ (List.mem_append_left _ h)))))))
set_option maxRecDepth 100000 in
theorem inB_7 {w : Cond} (h : w ∈ WB_7) : w ∈ WA := (List.mem_append_right _ (List.mem_append_right _ (List.mem_append_right _ (List.mem_append_right _ (List.mem_append_right _ (List.mem_append_right _ (List.mem_append_right _ (List.mem_append_left _ h))))))))
set_option maxRecDepth 100000 in
theorem inB_8 {w : Cond} (h : w ∈ WB_8) : w ∈ WA := (List.mem_append_right _ (List.mem_append_right _ (List.mem_append_right _ (List.mem_append_right _ (List.mem_append_right _ (List.mem_append_right _ (List.mem_append_right _ (List.mem_append_right _ (List.mem_append_left _ h)))))))))
set_option maxRecDepth 100000 in
theorem inB_9 {w : Cond} (h : w ∈ WB_9) : w ∈ WA := (List.mem_append_right _ (List.mem_append_right _ (List.mem_append_right _ (List.mem_append_right _ (List.mem_append_right _ (List.mem_append_right _ (List.mem_append_right _ (List.mem_append_right _ (List.mem_append_right _ (List.mem_append_left _ h))))))))))
set_option maxRecDepth 100000 in
theorem inB_10 {w : Cond} (h : w ∈ WB_10) : w ∈ WA := (List.mem_append_right _ (List.mem_append_right _ (List.mem_append_right _ (List.mem_append_right _ (List.mem_append_right _ (List.mem_append_right _ (List.mem_append_right _ (List.mem_append_right _ (List.mem_append_right _ (List.mem_append_right _ (List.mem_append_left _ h)))))))))))
set_option maxRecDepth 100000 in
theorem inB_11 {w : Cond} (h : w ∈ WB_11) : w ∈ WA := (List.mem_append_right _ (List.mem_append_right _ (List.mem_append_right _ (List.mem_append_right _ (List.mem_append_right _ (List.mem_append_right _ (List.mem_append_right _ (List.mem_append_right _ (List.mem_append_right _ (List.mem_append_right _ (List.mem_append_right _ (List.mem_append_left _ h))))))))))))
set_option maxRecDepth 100000 in
theorem inB_12 {w : Cond} (h : w ∈ WB_12) : w ∈ WA := (List.mem_append_right _ (List.mem_append_right _ (List.mem_append_right _ (List.mem_append_right _ (List.mem_append_right _ (List.mem_append_right _ (List.mem_append_right _ (List.mem_append_right _ (List.mem_append_right _ (List.mem_append_right _ (List.mem_append_right _ (List.mem_append_right _ (List.mem_append_left _ h)))))))))))))
set_option maxRecDepth 100000 in
theorem inB_13 {w : Cond} (h : w ∈ WB_13) : w ∈ WA := (List.mem_append_right _ (List.mem_append_right _ (List.mem_append_right _ (List.mem_append_right _ (List.mem_append_right _ (List.mem_append_right _ (List.mem_append_right _ (List.mem_append_right _ (List.mem_append_right _ (List.mem_append_right _ (List.mem_append_right _ (List.mem_append_right _ (List.mem_append_right _ (List.mem_append_left _ h))))))))))))))
set_option maxRecDepth 100000 in
theorem inB_14 {w : Cond} (h : w ∈ WB_14) : w ∈ WA := (List.mem_append_right _ (List.mem_append_right _ (List.mem_append_right _ (List.mem_append_right _ (List.mem_append_right _ (List.mem_append_right _ (List.mem_append_right _ (List.mem_append_right _ (List.mem_append_right _ (List.mem_append_right _ (List.mem_append_right _ (List.mem_append_right _ (List.mem_append_right _ (List.mem_append_right _ (List.mem_append_left _ h)))))))))))))))
set_option maxRecDepth 100000 in
theorem inU {w : Cond} (h : w ∈ WU) : w ∈ WA := (List.mem_append_right _ (List.mem_append_right _ (List.mem_append_right _ (List.mem_append_right _ (List.mem_append_right _ (List.mem_append_right _ (List.mem_append_right _ (List.mem_append_right _ (List.mem_append_right _ (List.mem_append_right _ (List.mem_append_right _ (List.mem_append_right _ (List.mem_append_right _ (List.mem_append_right _ (List.mem_append_right _ (h))))))))))))))))
set_option maxRecDepth 100000 in
theorem mw_0 : (.classLink RL 7 RX10 : Cond) ∈ WA := inB_0 (List.mem_of_getElem? (i := 0) rfl)
set_option maxRecDepth 100000 in
theorem ml_0 : (.classLink RL 7 RX10 : Cond) ∈ lw_tbl ∧ (((.classLink RL 7 RX10 : Cond).onTables && (.classLink RL 7 RX10 : Cond).keeps) = true ∨ ∃ ty, (.classLink RL 7 RX10 : Cond) = .arrayClass ty) := ⟨in_t1 (List.mem_of_getElem? (i := 23) rfl), Or.inl rfl⟩
set_option maxRecDepth 100000 in
theorem mw_1 : (.instantiable RX10 11 : Cond) ∈ WA := inB_0 (List.mem_of_getElem? (i := 1) rfl)
set_option maxRecDepth 100000 in
theorem ml_1 : (.instantiable RX10 11 : Cond) ∈ lw_tbl ∧ (((.instantiable RX10 11 : Cond).onTables && (.instantiable RX10 11 : Cond).keeps) = true ∨ ∃ ty, (.instantiable RX10 11 : Cond) = .arrayClass ty) := ⟨in_t1 (List.mem_of_getElem? (i := 24) rfl), Or.inl rfl⟩
set_option maxRecDepth 100000 in
theorem mw_2 : (.initialized RX10 : Cond) ∈ WA := inB_0 (List.mem_of_getElem? (i := 2) rfl)
set_option maxRecDepth 100000 in
theorem ml_2 : (.initialized RX10 : Cond) ∈ lw_tbl ∧ (((.initialized RX10 : Cond).onTables && (.initialized RX10 : Cond).keeps) = true ∨ ∃ ty, (.initialized RX10 : Cond) = .arrayClass ty) := ⟨in_t1 (List.mem_of_getElem? (i := 1) rfl), Or.inl rfl⟩
set_option maxRecDepth 100000 in
theorem mw_3 : (.methodLink RX10 1 Lib.objectInit : Cond) ∈ WA := inB_0 (List.mem_of_getElem? (i := 3) rfl)
set_option maxRecDepth 100000 in
theorem ml_3 : (.methodLink RX10 1 Lib.objectInit : Cond) ∈ lw_tbl ∧ (((.methodLink RX10 1 Lib.objectInit : Cond).onTables && (.methodLink RX10 1 Lib.objectInit : Cond).keeps) = true ∨ ∃ ty, (.methodLink RX10 1 Lib.objectInit : Cond) = .arrayClass ty) := ⟨in_t1 (List.mem_of_getElem? (i := 28) rfl), Or.inl rfl⟩
set_option maxRecDepth 100000 in
theorem mw_4 : (.instanceMethod Lib.objectInit : Cond) ∈ WA := inB_0 (List.mem_of_getElem? (i := 4) rfl)
set_option maxRecDepth 100000 in
theorem ml_4 : (.instanceMethod Lib.objectInit : Cond) ∈ lw_tbl ∧ (((.instanceMethod Lib.objectInit : Cond).onTables && (.instanceMethod Lib.objectInit : Cond).keeps) = true ∨ ∃ ty, (.instanceMethod Lib.objectInit : Cond) = .arrayClass ty) := ⟨in_t1 (List.mem_of_getElem? (i := 29) rfl), Or.inl rfl⟩
set_option maxRecDepth 100000 in
theorem mw_5 : (.code Lib.objectInit ⟨#[0xb1]⟩ 1 none : Cond) ∈ WA := inB_0 (List.mem_of_getElem? (i := 5) rfl)
set_option maxRecDepth 100000 in
theorem ml_5 : (.code Lib.objectInit ⟨#[0xb1]⟩ 1 none : Cond) ∈ lw_tbl ∧ (((.code Lib.objectInit ⟨#[0xb1]⟩ 1 none : Cond).onTables && (.code Lib.objectInit ⟨#[0xb1]⟩ 1 none : Cond).keeps) = true ∨ ∃ ty, (.code Lib.objectInit ⟨#[0xb1]⟩ 1 none : Cond) = .arrayClass ty) := ⟨in_t1 (List.mem_of_getElem? (i := 30) rfl), Or.inl rfl⟩
set_option maxRecDepth 100000 in
theorem mw_6 : (.classLink RX10 7 RX7 : Cond) ∈ WA := inB_0 (List.mem_of_getElem? (i := 6) rfl)
set_option maxRecDepth 100000 in
theorem ml_6 : (.classLink RX10 7 RX7 : Cond) ∈ lw_tbl ∧ (((.classLink RX10 7 RX7 : Cond).onTables && (.classLink RX10 7 RX7 : Cond).keeps) = true ∨ ∃ ty, (.classLink RX10 7 RX7 : Cond) = .arrayClass ty) := ⟨in_t1 (List.mem_of_getElem? (i := 31) rfl), Or.inl rfl⟩
set_option maxRecDepth 100000 in
theorem mw_7 : (.instantiable RX7 5 : Cond) ∈ WA := inB_0 (List.mem_of_getElem? (i := 7) rfl)
set_option maxRecDepth 100000 in
theorem ml_7 : (.instantiable RX7 5 : Cond) ∈ lw_tbl ∧ (((.instantiable RX7 5 : Cond).onTables && (.instantiable RX7 5 : Cond).keeps) = true ∨ ∃ ty, (.instantiable RX7 5 : Cond) = .arrayClass ty) := ⟨in_t1 (List.mem_of_getElem? (i := 32) rfl), Or.inl rfl⟩
set_option maxRecDepth 100000 in
theorem mw_8 : (.initialized RX7 : Cond) ∈ WA := inB_0 (List.mem_of_getElem? (i := 8) rfl)
set_option maxRecDepth 100000 in
theorem ml_8 : (.initialized RX7 : Cond) ∈ lw_tbl ∧ (((.initialized RX7 : Cond).onTables && (.initialized RX7 : Cond).keeps) = true ∨ ∃ ty, (.initialized RX7 : Cond) = .arrayClass ty) := ⟨in_t1 (List.mem_of_getElem? (i := 2) rfl), Or.inl rfl⟩
set_option maxRecDepth 100000 in
theorem mw_9 : (.methodLink RX7 3 Lib.objectInit : Cond) ∈ WA := inB_0 (List.mem_of_getElem? (i := 9) rfl)
set_option maxRecDepth 100000 in
theorem ml_9 : (.methodLink RX7 3 Lib.objectInit : Cond) ∈ lw_tbl ∧ (((.methodLink RX7 3 Lib.objectInit : Cond).onTables && (.methodLink RX7 3 Lib.objectInit : Cond).keeps) = true ∨ ∃ ty, (.methodLink RX7 3 Lib.objectInit : Cond) = .arrayClass ty) := ⟨in_t1 (List.mem_of_getElem? (i := 36) rfl), Or.inl rfl⟩
set_option maxRecDepth 100000 in
theorem mw_10 : (.fieldLink RX7 9 "ArrayHouse$State" "origin" "I" : Cond) ∈ WA := inB_0 (List.mem_of_getElem? (i := 10) rfl)
set_option maxRecDepth 100000 in
theorem ml_10 : (.fieldLink RX7 9 "ArrayHouse$State" "origin" "I" : Cond) ∈ lw_tbl ∧ (((.fieldLink RX7 9 "ArrayHouse$State" "origin" "I" : Cond).onTables && (.fieldLink RX7 9 "ArrayHouse$State" "origin" "I" : Cond).keeps) = true ∨ ∃ ty, (.fieldLink RX7 9 "ArrayHouse$State" "origin" "I" : Cond) = .arrayClass ty) := ⟨in_t1 (List.mem_of_getElem? (i := 48) rfl), Or.inl rfl⟩
set_option maxRecDepth 100000 in
theorem mw_11 : (.fieldLink RX7 15 "ArrayHouse$State" "link" "I" : Cond) ∈ WA := inB_0 (List.mem_of_getElem? (i := 11) rfl)
set_option maxRecDepth 100000 in
theorem ml_11 : (.fieldLink RX7 15 "ArrayHouse$State" "link" "I" : Cond) ∈ lw_tbl ∧ (((.fieldLink RX7 15 "ArrayHouse$State" "link" "I" : Cond).onTables && (.fieldLink RX7 15 "ArrayHouse$State" "link" "I" : Cond).keeps) = true ∨ ∃ ty, (.fieldLink RX7 15 "ArrayHouse$State" "link" "I" : Cond) = .arrayClass ty) := ⟨in_t1 (List.mem_of_getElem? (i := 55) rfl), Or.inl rfl⟩
set_option maxRecDepth 100000 in
theorem mw_12 : (.code yX7_init cX7_init 1 none : Cond) ∈ WA := inB_0 (List.mem_of_getElem? (i := 12) rfl)
set_option maxRecDepth 100000 in
theorem ml_12 : (.code yX7_init cX7_init 1 none : Cond) ∈ lw_tbl ∧ (((.code yX7_init cX7_init 1 none : Cond).onTables && (.code yX7_init cX7_init 1 none : Cond).keeps) = true ∨ ∃ ty, (.code yX7_init cX7_init 1 none : Cond) = .arrayClass ty) := ⟨in_t1 (List.mem_of_getElem? (i := 35) rfl), Or.inl rfl⟩
set_option maxRecDepth 100000 in
theorem mw_13 : (.instanceMethod yX7_init : Cond) ∈ WA := inB_0 (List.mem_of_getElem? (i := 13) rfl)
set_option maxRecDepth 100000 in
theorem ml_13 : (.instanceMethod yX7_init : Cond) ∈ lw_tbl ∧ (((.instanceMethod yX7_init : Cond).onTables && (.instanceMethod yX7_init : Cond).keeps) = true ∨ ∃ ty, (.instanceMethod yX7_init : Cond) = .arrayClass ty) := ⟨in_t1 (List.mem_of_getElem? (i := 34) rfl), Or.inl rfl⟩
set_option maxRecDepth 100000 in
theorem mw_14 : (.fieldLink RX10 10 "ArrayHouse" "state" "LArrayHouse$State;" : Cond) ∈ WA := inB_0 (List.mem_of_getElem? (i := 14) rfl)
set_option maxRecDepth 100000 in
theorem ml_14 : (.fieldLink RX10 10 "ArrayHouse" "state" "LArrayHouse$State;" : Cond) ∈ lw_tbl ∧ (((.fieldLink RX10 10 "ArrayHouse" "state" "LArrayHouse$State;" : Cond).onTables && (.fieldLink RX10 10 "ArrayHouse" "state" "LArrayHouse$State;" : Cond).keeps) = true ∨ ∃ ty, (.fieldLink RX10 10 "ArrayHouse" "state" "LArrayHouse$State;" : Cond) = .arrayClass ty) := ⟨in_t2 (List.mem_of_getElem? (i := 145) rfl), Or.inl rfl⟩
set_option maxRecDepth 100000 in
theorem mw_15 : (.classLink RX10 16 RX1 : Cond) ∈ WA := inB_0 (List.mem_of_getElem? (i := 15) rfl)
set_option maxRecDepth 100000 in
theorem ml_15 : (.classLink RX10 16 RX1 : Cond) ∈ lw_tbl ∧ (((.classLink RX10 16 RX1 : Cond).onTables && (.classLink RX10 16 RX1 : Cond).keeps) = true ∨ ∃ ty, (.classLink RX10 16 RX1 : Cond) = .arrayClass ty) := ⟨in_t1 (List.mem_of_getElem? (i := 68) rfl), Or.inl rfl⟩
set_option maxRecDepth 100000 in
theorem mw_16 : (.instantiable RX1 9 : Cond) ∈ WA := inB_0 (List.mem_of_getElem? (i := 16) rfl)
set_option maxRecDepth 100000 in
theorem ml_16 : (.instantiable RX1 9 : Cond) ∈ lw_tbl ∧ (((.instantiable RX1 9 : Cond).onTables && (.instantiable RX1 9 : Cond).keeps) = true ∨ ∃ ty, (.instantiable RX1 9 : Cond) = .arrayClass ty) := ⟨in_t1 (List.mem_of_getElem? (i := 69) rfl), Or.inl rfl⟩
set_option maxRecDepth 100000 in
theorem mw_17 : (.initialized RX1 : Cond) ∈ WA := inB_0 (List.mem_of_getElem? (i := 17) rfl)
set_option maxRecDepth 100000 in
theorem ml_17 : (.initialized RX1 : Cond) ∈ lw_tbl ∧ (((.initialized RX1 : Cond).onTables && (.initialized RX1 : Cond).keeps) = true ∨ ∃ ty, (.initialized RX1 : Cond) = .arrayClass ty) := ⟨in_t1 (List.mem_of_getElem? (i := 3) rfl), Or.inl rfl⟩
set_option maxRecDepth 100000 in
theorem mw_18 : (.methodLink RX1 3 Lib.objectInit : Cond) ∈ WA := inB_0 (List.mem_of_getElem? (i := 18) rfl)
set_option maxRecDepth 100000 in
theorem ml_18 : (.methodLink RX1 3 Lib.objectInit : Cond) ∈ lw_tbl ∧ (((.methodLink RX1 3 Lib.objectInit : Cond).onTables && (.methodLink RX1 3 Lib.objectInit : Cond).keeps) = true ∨ ∃ ty, (.methodLink RX1 3 Lib.objectInit : Cond) = .arrayClass ty) := ⟨in_t1 (List.mem_of_getElem? (i := 73) rfl), Or.inl rfl⟩
set_option maxRecDepth 100000 in
theorem mw_19 : (.arrayClass .int : Cond) ∈ WA := inB_0 (List.mem_of_getElem? (i := 19) rfl)
set_option maxRecDepth 100000 in
theorem ml_19 : (.arrayClass .int : Cond) ∈ lw_tbl ∧ (((.arrayClass .int : Cond).onTables && (.arrayClass .int : Cond).keeps) = true ∨ ∃ ty, (.arrayClass .int : Cond) = .arrayClass ty) := ⟨in_t1 (List.mem_of_getElem? (i := 112) rfl), Or.inr ⟨_, rfl⟩⟩
set_option maxRecDepth 100000 in
theorem mw_20 : (.fieldLink RX1 9 "ArrayHouse$Heap" "shape" "[I" : Cond) ∈ WA := inB_0 (List.mem_of_getElem? (i := 20) rfl)
set_option maxRecDepth 100000 in
theorem ml_20 : (.fieldLink RX1 9 "ArrayHouse$Heap" "shape" "[I" : Cond) ∈ lw_tbl ∧ (((.fieldLink RX1 9 "ArrayHouse$Heap" "shape" "[I" : Cond).onTables && (.fieldLink RX1 9 "ArrayHouse$Heap" "shape" "[I" : Cond).keeps) = true ∨ ∃ ty, (.fieldLink RX1 9 "ArrayHouse$Heap" "shape" "[I" : Cond) = .arrayClass ty) := ⟨in_t1 (List.mem_of_getElem? (i := 75) rfl), Or.inl rfl⟩
set_option maxRecDepth 100000 in
theorem mw_21 : (.fieldLink RX1 15 "ArrayHouse$Heap" "words" "[I" : Cond) ∈ WA := inB_0 (List.mem_of_getElem? (i := 21) rfl)
set_option maxRecDepth 100000 in
theorem ml_21 : (.fieldLink RX1 15 "ArrayHouse$Heap" "words" "[I" : Cond) ∈ lw_tbl ∧ (((.fieldLink RX1 15 "ArrayHouse$Heap" "words" "[I" : Cond).onTables && (.fieldLink RX1 15 "ArrayHouse$Heap" "words" "[I" : Cond).keeps) = true ∨ ∃ ty, (.fieldLink RX1 15 "ArrayHouse$Heap" "words" "[I" : Cond) = .arrayClass ty) := ⟨in_t1 (List.mem_of_getElem? (i := 80) rfl), Or.inl rfl⟩
set_option maxRecDepth 100000 in
theorem mw_22 : (.fieldLink RX1 18 "ArrayHouse$Heap" "spare" "[I" : Cond) ∈ WA := inB_0 (List.mem_of_getElem? (i := 22) rfl)
set_option maxRecDepth 100000 in
theorem ml_22 : (.fieldLink RX1 18 "ArrayHouse$Heap" "spare" "[I" : Cond) ∈ lw_tbl ∧ (((.fieldLink RX1 18 "ArrayHouse$Heap" "spare" "[I" : Cond).onTables && (.fieldLink RX1 18 "ArrayHouse$Heap" "spare" "[I" : Cond).keeps) = true ∨ ∃ ty, (.fieldLink RX1 18 "ArrayHouse$Heap" "spare" "[I" : Cond) = .arrayClass ty) := ⟨in_t1 (List.mem_of_getElem? (i := 81) rfl), Or.inl rfl⟩
set_option maxRecDepth 100000 in
theorem mw_23 : (.fieldLink RX1 21 "ArrayHouse$Heap" "top" "I" : Cond) ∈ WA := inB_0 (List.mem_of_getElem? (i := 23) rfl)
set_option maxRecDepth 100000 in
theorem ml_23 : (.fieldLink RX1 21 "ArrayHouse$Heap" "top" "I" : Cond) ∈ lw_tbl ∧ (((.fieldLink RX1 21 "ArrayHouse$Heap" "top" "I" : Cond).onTables && (.fieldLink RX1 21 "ArrayHouse$Heap" "top" "I" : Cond).keeps) = true ∨ ∃ ty, (.fieldLink RX1 21 "ArrayHouse$Heap" "top" "I" : Cond) = .arrayClass ty) := ⟨in_t1 (List.mem_of_getElem? (i := 82) rfl), Or.inl rfl⟩
set_option maxRecDepth 100000 in
theorem mw_24 : (.fieldLink RX1 25 "ArrayHouse$Heap" "base" "I" : Cond) ∈ WA := inB_0 (List.mem_of_getElem? (i := 24) rfl)
set_option maxRecDepth 100000 in
theorem ml_24 : (.fieldLink RX1 25 "ArrayHouse$Heap" "base" "I" : Cond) ∈ lw_tbl ∧ (((.fieldLink RX1 25 "ArrayHouse$Heap" "base" "I" : Cond).onTables && (.fieldLink RX1 25 "ArrayHouse$Heap" "base" "I" : Cond).keeps) = true ∨ ∃ ty, (.fieldLink RX1 25 "ArrayHouse$Heap" "base" "I" : Cond) = .arrayClass ty) := ⟨in_t1 (List.mem_of_getElem? (i := 88) rfl), Or.inl rfl⟩
set_option maxRecDepth 100000 in
theorem mw_25 : (.fieldLink RX1 28 "ArrayHouse$Heap" "fillD" "I" : Cond) ∈ WA := inB_0 (List.mem_of_getElem? (i := 25) rfl)
set_option maxRecDepth 100000 in
theorem ml_25 : (.fieldLink RX1 28 "ArrayHouse$Heap" "fillD" "I" : Cond) ∈ lw_tbl ∧ (((.fieldLink RX1 28 "ArrayHouse$Heap" "fillD" "I" : Cond).onTables && (.fieldLink RX1 28 "ArrayHouse$Heap" "fillD" "I" : Cond).keeps) = true ∨ ∃ ty, (.fieldLink RX1 28 "ArrayHouse$Heap" "fillD" "I" : Cond) = .arrayClass ty) := ⟨in_t1 (List.mem_of_getElem? (i := 91) rfl), Or.inl rfl⟩
set_option maxRecDepth 100000 in
theorem mw_26 : (.fieldLink RX1 31 "ArrayHouse$Heap" "state" "LArrayHouse$State;" : Cond) ∈ WA := inB_0 (List.mem_of_getElem? (i := 26) rfl)
set_option maxRecDepth 100000 in
theorem ml_26 : (.fieldLink RX1 31 "ArrayHouse$Heap" "state" "LArrayHouse$State;" : Cond) ∈ lw_tbl ∧ (((.fieldLink RX1 31 "ArrayHouse$Heap" "state" "LArrayHouse$State;" : Cond).onTables && (.fieldLink RX1 31 "ArrayHouse$Heap" "state" "LArrayHouse$State;" : Cond).keeps) = true ∨ ∃ ty, (.fieldLink RX1 31 "ArrayHouse$Heap" "state" "LArrayHouse$State;" : Cond) = .arrayClass ty) := ⟨in_t1 (List.mem_of_getElem? (i := 74) rfl), Or.inl rfl⟩
set_option maxRecDepth 100000 in
theorem mw_27 : (.code yX1_init cX1_init 2 none : Cond) ∈ WA := inB_0 (List.mem_of_getElem? (i := 27) rfl)
set_option maxRecDepth 100000 in
theorem ml_27 : (.code yX1_init cX1_init 2 none : Cond) ∈ lw_tbl ∧ (((.code yX1_init cX1_init 2 none : Cond).onTables && (.code yX1_init cX1_init 2 none : Cond).keeps) = true ∨ ∃ ty, (.code yX1_init cX1_init 2 none : Cond) = .arrayClass ty) := ⟨in_t1 (List.mem_of_getElem? (i := 72) rfl), Or.inl rfl⟩
set_option maxRecDepth 100000 in
theorem mw_28 : (.instanceMethod yX1_init : Cond) ∈ WA := inB_0 (List.mem_of_getElem? (i := 28) rfl)
set_option maxRecDepth 100000 in
theorem ml_28 : (.instanceMethod yX1_init : Cond) ∈ lw_tbl ∧ (((.instanceMethod yX1_init : Cond).onTables && (.instanceMethod yX1_init : Cond).keeps) = true ∨ ∃ ty, (.instanceMethod yX1_init : Cond) = .arrayClass ty) := ⟨in_t1 (List.mem_of_getElem? (i := 71) rfl), Or.inl rfl⟩
set_option maxRecDepth 100000 in
theorem mw_29 : (.fieldLink RX10 21 "ArrayHouse" "heap" "LArrayHouse$Heap;" : Cond) ∈ WA := inB_0 (List.mem_of_getElem? (i := 29) rfl)
set_option maxRecDepth 100000 in
theorem ml_29 : (.fieldLink RX10 21 "ArrayHouse" "heap" "LArrayHouse$Heap;" : Cond) ∈ lw_tbl ∧ (((.fieldLink RX10 21 "ArrayHouse" "heap" "LArrayHouse$Heap;" : Cond).onTables && (.fieldLink RX10 21 "ArrayHouse" "heap" "LArrayHouse$Heap;" : Cond).keeps) = true ∨ ∃ ty, (.fieldLink RX10 21 "ArrayHouse" "heap" "LArrayHouse$Heap;" : Cond) = .arrayClass ty) := ⟨in_t2 (List.mem_of_getElem? (i := 146) rfl), Or.inl rfl⟩
set_option maxRecDepth 100000 in
theorem mw_30 : (.classLink RX10 25 RX8 : Cond) ∈ WA := inB_0 (List.mem_of_getElem? (i := 30) rfl)
set_option maxRecDepth 100000 in
theorem ml_30 : (.classLink RX10 25 RX8 : Cond) ∈ lw_tbl ∧ (((.classLink RX10 25 RX8 : Cond).onTables && (.classLink RX10 25 RX8 : Cond).keeps) = true ∨ ∃ ty, (.classLink RX10 25 RX8 : Cond) = .arrayClass ty) := ⟨in_t1 (List.mem_of_getElem? (i := 113) rfl), Or.inl rfl⟩
set_option maxRecDepth 100000 in
theorem mw_31 : (.instantiable RX8 8 : Cond) ∈ WA := inB_0 (List.mem_of_getElem? (i := 31) rfl)
set_option maxRecDepth 100000 in
theorem ml_31 : (.instantiable RX8 8 : Cond) ∈ lw_tbl ∧ (((.instantiable RX8 8 : Cond).onTables && (.instantiable RX8 8 : Cond).keeps) = true ∨ ∃ ty, (.instantiable RX8 8 : Cond) = .arrayClass ty) := ⟨in_t1 (List.mem_of_getElem? (i := 114) rfl), Or.inl rfl⟩
set_option maxRecDepth 100000 in
theorem mw_32 : (.initialized RX8 : Cond) ∈ WA := inB_1 (List.mem_of_getElem? (i := 0) rfl)
set_option maxRecDepth 100000 in
theorem ml_32 : (.initialized RX8 : Cond) ∈ lw_tbl ∧ (((.initialized RX8 : Cond).onTables && (.initialized RX8 : Cond).keeps) = true ∨ ∃ ty, (.initialized RX8 : Cond) = .arrayClass ty) := ⟨in_t1 (List.mem_of_getElem? (i := 4) rfl), Or.inl rfl⟩
set_option maxRecDepth 100000 in
theorem mw_33 : (.methodLink RX8 3 Lib.objectInit : Cond) ∈ WA := inB_1 (List.mem_of_getElem? (i := 1) rfl)
set_option maxRecDepth 100000 in
theorem ml_33 : (.methodLink RX8 3 Lib.objectInit : Cond) ∈ lw_tbl ∧ (((.methodLink RX8 3 Lib.objectInit : Cond).onTables && (.methodLink RX8 3 Lib.objectInit : Cond).keeps) = true ∨ ∃ ty, (.methodLink RX8 3 Lib.objectInit : Cond) = .arrayClass ty) := ⟨in_t1 (List.mem_of_getElem? (i := 118) rfl), Or.inl rfl⟩
set_option maxRecDepth 100000 in
theorem mw_34 : (.arrayClass .byte : Cond) ∈ WA := inB_1 (List.mem_of_getElem? (i := 2) rfl)
set_option maxRecDepth 100000 in
theorem ml_34 : (.arrayClass .byte : Cond) ∈ lw_tbl ∧ (((.arrayClass .byte : Cond).onTables && (.arrayClass .byte : Cond).keeps) = true ∨ ∃ ty, (.arrayClass .byte : Cond) = .arrayClass ty) := ⟨in_t1 (List.mem_of_getElem? (i := 149) rfl), Or.inr ⟨_, rfl⟩⟩
set_option maxRecDepth 100000 in
theorem mw_35 : (.fieldLink RX8 9 "ArrayHouse$Text" "kept" "[B" : Cond) ∈ WA := inB_1 (List.mem_of_getElem? (i := 3) rfl)
set_option maxRecDepth 100000 in
theorem ml_35 : (.fieldLink RX8 9 "ArrayHouse$Text" "kept" "[B" : Cond) ∈ lw_tbl ∧ (((.fieldLink RX8 9 "ArrayHouse$Text" "kept" "[B" : Cond).onTables && (.fieldLink RX8 9 "ArrayHouse$Text" "kept" "[B" : Cond).keeps) = true ∨ ∃ ty, (.fieldLink RX8 9 "ArrayHouse$Text" "kept" "[B" : Cond) = .arrayClass ty) := ⟨in_t1 (List.mem_of_getElem? (i := 119) rfl), Or.inl rfl⟩
set_option maxRecDepth 100000 in
theorem mw_36 : (.fieldLink RX8 15 "ArrayHouse$Text" "bytes" "[B" : Cond) ∈ WA := inB_1 (List.mem_of_getElem? (i := 4) rfl)
set_option maxRecDepth 100000 in
theorem ml_36 : (.fieldLink RX8 15 "ArrayHouse$Text" "bytes" "[B" : Cond) ∈ lw_tbl ∧ (((.fieldLink RX8 15 "ArrayHouse$Text" "bytes" "[B" : Cond).onTables && (.fieldLink RX8 15 "ArrayHouse$Text" "bytes" "[B" : Cond).keeps) = true ∨ ∃ ty, (.fieldLink RX8 15 "ArrayHouse$Text" "bytes" "[B" : Cond) = .arrayClass ty) := ⟨in_t1 (List.mem_of_getElem? (i := 120) rfl), Or.inl rfl⟩
set_option maxRecDepth 100000 in
theorem mw_37 : (.fieldLink RX8 18 "ArrayHouse$Text" "tokens" "[I" : Cond) ∈ WA := inB_1 (List.mem_of_getElem? (i := 5) rfl)
set_option maxRecDepth 100000 in
theorem ml_37 : (.fieldLink RX8 18 "ArrayHouse$Text" "tokens" "[I" : Cond) ∈ lw_tbl ∧ (((.fieldLink RX8 18 "ArrayHouse$Text" "tokens" "[I" : Cond).onTables && (.fieldLink RX8 18 "ArrayHouse$Text" "tokens" "[I" : Cond).keeps) = true ∨ ∃ ty, (.fieldLink RX8 18 "ArrayHouse$Text" "tokens" "[I" : Cond) = .arrayClass ty) := ⟨in_t1 (List.mem_of_getElem? (i := 121) rfl), Or.inl rfl⟩
set_option maxRecDepth 100000 in
theorem mw_38 : (.fieldLink RX8 22 "ArrayHouse$Text" "lastMade" "I" : Cond) ∈ WA := inB_1 (List.mem_of_getElem? (i := 6) rfl)
set_option maxRecDepth 100000 in
theorem ml_38 : (.fieldLink RX8 22 "ArrayHouse$Text" "lastMade" "I" : Cond) ∈ lw_tbl ∧ (((.fieldLink RX8 22 "ArrayHouse$Text" "lastMade" "I" : Cond).onTables && (.fieldLink RX8 22 "ArrayHouse$Text" "lastMade" "I" : Cond).keeps) = true ∨ ∃ ty, (.fieldLink RX8 22 "ArrayHouse$Text" "lastMade" "I" : Cond) = .arrayClass ty) := ⟨in_t1 (List.mem_of_getElem? (i := 131) rfl), Or.inl rfl⟩
set_option maxRecDepth 100000 in
theorem mw_39 : (.code yX8_init cX8_init 1 none : Cond) ∈ WA := inB_1 (List.mem_of_getElem? (i := 7) rfl)
set_option maxRecDepth 100000 in
theorem ml_39 : (.code yX8_init cX8_init 1 none : Cond) ∈ lw_tbl ∧ (((.code yX8_init cX8_init 1 none : Cond).onTables && (.code yX8_init cX8_init 1 none : Cond).keeps) = true ∨ ∃ ty, (.code yX8_init cX8_init 1 none : Cond) = .arrayClass ty) := ⟨in_t1 (List.mem_of_getElem? (i := 117) rfl), Or.inl rfl⟩
set_option maxRecDepth 100000 in
theorem mw_40 : (.instanceMethod yX8_init : Cond) ∈ WA := inB_1 (List.mem_of_getElem? (i := 8) rfl)
set_option maxRecDepth 100000 in
theorem ml_40 : (.instanceMethod yX8_init : Cond) ∈ lw_tbl ∧ (((.instanceMethod yX8_init : Cond).onTables && (.instanceMethod yX8_init : Cond).keeps) = true ∨ ∃ ty, (.instanceMethod yX8_init : Cond) = .arrayClass ty) := ⟨in_t1 (List.mem_of_getElem? (i := 116) rfl), Or.inl rfl⟩
set_option maxRecDepth 100000 in
theorem mw_41 : (.fieldLink RX10 28 "ArrayHouse" "text" "LArrayHouse$Text;" : Cond) ∈ WA := inB_1 (List.mem_of_getElem? (i := 9) rfl)
set_option maxRecDepth 100000 in
theorem ml_41 : (.fieldLink RX10 28 "ArrayHouse" "text" "LArrayHouse$Text;" : Cond) ∈ lw_tbl ∧ (((.fieldLink RX10 28 "ArrayHouse" "text" "LArrayHouse$Text;" : Cond).onTables && (.fieldLink RX10 28 "ArrayHouse" "text" "LArrayHouse$Text;" : Cond).keeps) = true ∨ ∃ ty, (.fieldLink RX10 28 "ArrayHouse" "text" "LArrayHouse$Text;" : Cond) = .arrayClass ty) := ⟨in_t2 (List.mem_of_getElem? (i := 147) rfl), Or.inl rfl⟩
set_option maxRecDepth 100000 in
theorem mw_42 : (.classLink RX10 32 RX3 : Cond) ∈ WA := inB_1 (List.mem_of_getElem? (i := 10) rfl)
set_option maxRecDepth 100000 in
theorem ml_42 : (.classLink RX10 32 RX3 : Cond) ∈ lw_tbl ∧ (((.classLink RX10 32 RX3 : Cond).onTables && (.classLink RX10 32 RX3 : Cond).keeps) = true ∨ ∃ ty, (.classLink RX10 32 RX3 : Cond) = .arrayClass ty) := ⟨in_t1 (List.mem_of_getElem? (i := 150) rfl), Or.inl rfl⟩
set_option maxRecDepth 100000 in
theorem mw_43 : (.instantiable RX3 16 : Cond) ∈ WA := inB_1 (List.mem_of_getElem? (i := 11) rfl)
set_option maxRecDepth 100000 in
theorem ml_43 : (.instantiable RX3 16 : Cond) ∈ lw_tbl ∧ (((.instantiable RX3 16 : Cond).onTables && (.instantiable RX3 16 : Cond).keeps) = true ∨ ∃ ty, (.instantiable RX3 16 : Cond) = .arrayClass ty) := ⟨in_t1 (List.mem_of_getElem? (i := 151) rfl), Or.inl rfl⟩
set_option maxRecDepth 100000 in
theorem mw_44 : (.initialized RX3 : Cond) ∈ WA := inB_1 (List.mem_of_getElem? (i := 12) rfl)
set_option maxRecDepth 100000 in
theorem ml_44 : (.initialized RX3 : Cond) ∈ lw_tbl ∧ (((.initialized RX3 : Cond).onTables && (.initialized RX3 : Cond).keeps) = true ∨ ∃ ty, (.initialized RX3 : Cond) = .arrayClass ty) := ⟨in_t1 (List.mem_of_getElem? (i := 5) rfl), Or.inl rfl⟩
set_option maxRecDepth 100000 in
theorem mw_45 : (.methodLink RX3 3 Lib.objectInit : Cond) ∈ WA := inB_1 (List.mem_of_getElem? (i := 13) rfl)
set_option maxRecDepth 100000 in
theorem ml_45 : (.methodLink RX3 3 Lib.objectInit : Cond) ∈ lw_tbl ∧ (((.methodLink RX3 3 Lib.objectInit : Cond).onTables && (.methodLink RX3 3 Lib.objectInit : Cond).keeps) = true ∨ ∃ ty, (.methodLink RX3 3 Lib.objectInit : Cond) = .arrayClass ty) := ⟨in_t1 (List.mem_of_getElem? (i := 155) rfl), Or.inl rfl⟩
set_option maxRecDepth 100000 in
theorem mw_46 : (.fieldLink RX3 11 "ArrayHouse$Places" "nameA" "[I" : Cond) ∈ WA := inB_1 (List.mem_of_getElem? (i := 14) rfl)
set_option maxRecDepth 100000 in
theorem ml_46 : (.fieldLink RX3 11 "ArrayHouse$Places" "nameA" "[I" : Cond) ∈ lw_tbl ∧ (((.fieldLink RX3 11 "ArrayHouse$Places" "nameA" "[I" : Cond).onTables && (.fieldLink RX3 11 "ArrayHouse$Places" "nameA" "[I" : Cond).keeps) = true ∨ ∃ ty, (.fieldLink RX3 11 "ArrayHouse$Places" "nameA" "[I" : Cond) = .arrayClass ty) := ⟨in_t1 (List.mem_of_getElem? (i := 159) rfl), Or.inl rfl⟩
set_option maxRecDepth 100000 in
theorem mw_47 : (.fieldLink RX3 15 "ArrayHouse$Places" "nameB" "[I" : Cond) ∈ WA := inB_1 (List.mem_of_getElem? (i := 15) rfl)
set_option maxRecDepth 100000 in
theorem ml_47 : (.fieldLink RX3 15 "ArrayHouse$Places" "nameB" "[I" : Cond) ∈ lw_tbl ∧ (((.fieldLink RX3 15 "ArrayHouse$Places" "nameB" "[I" : Cond).onTables && (.fieldLink RX3 15 "ArrayHouse$Places" "nameB" "[I" : Cond).keeps) = true ∨ ∃ ty, (.fieldLink RX3 15 "ArrayHouse$Places" "nameB" "[I" : Cond) = .arrayClass ty) := ⟨in_t1 (List.mem_of_getElem? (i := 160) rfl), Or.inl rfl⟩
set_option maxRecDepth 100000 in
theorem mw_48 : (.fieldLink RX3 18 "ArrayHouse$Places" "means" "[I" : Cond) ∈ WA := inB_1 (List.mem_of_getElem? (i := 16) rfl)
set_option maxRecDepth 100000 in
theorem ml_48 : (.fieldLink RX3 18 "ArrayHouse$Places" "means" "[I" : Cond) ∈ lw_tbl ∧ (((.fieldLink RX3 18 "ArrayHouse$Places" "means" "[I" : Cond).onTables && (.fieldLink RX3 18 "ArrayHouse$Places" "means" "[I" : Cond).keeps) = true ∨ ∃ ty, (.fieldLink RX3 18 "ArrayHouse$Places" "means" "[I" : Cond) = .arrayClass ty) := ⟨in_t1 (List.mem_of_getElem? (i := 161) rfl), Or.inl rfl⟩
set_option maxRecDepth 100000 in
theorem mw_49 : (.fieldLink RX3 21 "ArrayHouse$Places" "from" "[I" : Cond) ∈ WA := inB_1 (List.mem_of_getElem? (i := 17) rfl)
set_option maxRecDepth 100000 in
theorem ml_49 : (.fieldLink RX3 21 "ArrayHouse$Places" "from" "[I" : Cond) ∈ lw_tbl ∧ (((.fieldLink RX3 21 "ArrayHouse$Places" "from" "[I" : Cond).onTables && (.fieldLink RX3 21 "ArrayHouse$Places" "from" "[I" : Cond).keeps) = true ∨ ∃ ty, (.fieldLink RX3 21 "ArrayHouse$Places" "from" "[I" : Cond) = .arrayClass ty) := ⟨in_t1 (List.mem_of_getElem? (i := 163) rfl), Or.inl rfl⟩
set_option maxRecDepth 100000 in
theorem mw_50 : (.fieldLink RX3 24 "ArrayHouse$Places" "to" "[I" : Cond) ∈ WA := inB_1 (List.mem_of_getElem? (i := 18) rfl)
set_option maxRecDepth 100000 in
theorem ml_50 : (.fieldLink RX3 24 "ArrayHouse$Places" "to" "[I" : Cond) ∈ lw_tbl ∧ (((.fieldLink RX3 24 "ArrayHouse$Places" "to" "[I" : Cond).onTables && (.fieldLink RX3 24 "ArrayHouse$Places" "to" "[I" : Cond).keeps) = true ∨ ∃ ty, (.fieldLink RX3 24 "ArrayHouse$Places" "to" "[I" : Cond) = .arrayClass ty) := ⟨in_t1 (List.mem_of_getElem? (i := 166) rfl), Or.inl rfl⟩
set_option maxRecDepth 100000 in
theorem mw_51 : (.fieldLink RX3 27 "ArrayHouse$Places" "used" "[I" : Cond) ∈ WA := inB_1 (List.mem_of_getElem? (i := 19) rfl)
set_option maxRecDepth 100000 in
theorem ml_51 : (.fieldLink RX3 27 "ArrayHouse$Places" "used" "[I" : Cond) ∈ lw_tbl ∧ (((.fieldLink RX3 27 "ArrayHouse$Places" "used" "[I" : Cond).onTables && (.fieldLink RX3 27 "ArrayHouse$Places" "used" "[I" : Cond).keeps) = true ∨ ∃ ty, (.fieldLink RX3 27 "ArrayHouse$Places" "used" "[I" : Cond) = .arrayClass ty) := ⟨in_t1 (List.mem_of_getElem? (i := 169) rfl), Or.inl rfl⟩
set_option maxRecDepth 100000 in
theorem mw_52 : (.fieldLink RX3 30 "ArrayHouse$Places" "around" "[I" : Cond) ∈ WA := inB_1 (List.mem_of_getElem? (i := 20) rfl)
set_option maxRecDepth 100000 in
theorem ml_52 : (.fieldLink RX3 30 "ArrayHouse$Places" "around" "[I" : Cond) ∈ lw_tbl ∧ (((.fieldLink RX3 30 "ArrayHouse$Places" "around" "[I" : Cond).onTables && (.fieldLink RX3 30 "ArrayHouse$Places" "around" "[I" : Cond).keeps) = true ∨ ∃ ty, (.fieldLink RX3 30 "ArrayHouse$Places" "around" "[I" : Cond) = .arrayClass ty) := ⟨in_t1 (List.mem_of_getElem? (i := 170) rfl), Or.inl rfl⟩
set_option maxRecDepth 100000 in
theorem mw_53 : (.fieldLink RX3 33 "ArrayHouse$Places" "left" "[I" : Cond) ∈ WA := inB_1 (List.mem_of_getElem? (i := 21) rfl)
set_option maxRecDepth 100000 in
theorem ml_53 : (.fieldLink RX3 33 "ArrayHouse$Places" "left" "[I" : Cond) ∈ lw_tbl ∧ (((.fieldLink RX3 33 "ArrayHouse$Places" "left" "[I" : Cond).onTables && (.fieldLink RX3 33 "ArrayHouse$Places" "left" "[I" : Cond).keeps) = true ∨ ∃ ty, (.fieldLink RX3 33 "ArrayHouse$Places" "left" "[I" : Cond) = .arrayClass ty) := ⟨in_t1 (List.mem_of_getElem? (i := 171) rfl), Or.inl rfl⟩
set_option maxRecDepth 100000 in
theorem mw_54 : (.fieldLink RX3 36 "ArrayHouse$Places" "right" "[I" : Cond) ∈ WA := inB_1 (List.mem_of_getElem? (i := 22) rfl)
set_option maxRecDepth 100000 in
theorem ml_54 : (.fieldLink RX3 36 "ArrayHouse$Places" "right" "[I" : Cond) ∈ lw_tbl ∧ (((.fieldLink RX3 36 "ArrayHouse$Places" "right" "[I" : Cond).onTables && (.fieldLink RX3 36 "ArrayHouse$Places" "right" "[I" : Cond).keeps) = true ∨ ∃ ty, (.fieldLink RX3 36 "ArrayHouse$Places" "right" "[I" : Cond) = .arrayClass ty) := ⟨in_t1 (List.mem_of_getElem? (i := 173) rfl), Or.inl rfl⟩
set_option maxRecDepth 100000 in
theorem mw_55 : (.fieldLink RX3 39 "ArrayHouse$Places" "self" "[I" : Cond) ∈ WA := inB_1 (List.mem_of_getElem? (i := 23) rfl)
set_option maxRecDepth 100000 in
theorem ml_55 : (.fieldLink RX3 39 "ArrayHouse$Places" "self" "[I" : Cond) ∈ lw_tbl ∧ (((.fieldLink RX3 39 "ArrayHouse$Places" "self" "[I" : Cond).onTables && (.fieldLink RX3 39 "ArrayHouse$Places" "self" "[I" : Cond).keeps) = true ∨ ∃ ty, (.fieldLink RX3 39 "ArrayHouse$Places" "self" "[I" : Cond) = .arrayClass ty) := ⟨in_t1 (List.mem_of_getElem? (i := 175) rfl), Or.inl rfl⟩
set_option maxRecDepth 100000 in
theorem mw_56 : (.fieldLink RX3 42 "ArrayHouse$Places" "guards" "[I" : Cond) ∈ WA := inB_1 (List.mem_of_getElem? (i := 24) rfl)
set_option maxRecDepth 100000 in
theorem ml_56 : (.fieldLink RX3 42 "ArrayHouse$Places" "guards" "[I" : Cond) ∈ lw_tbl ∧ (((.fieldLink RX3 42 "ArrayHouse$Places" "guards" "[I" : Cond).onTables && (.fieldLink RX3 42 "ArrayHouse$Places" "guards" "[I" : Cond).keeps) = true ∨ ∃ ty, (.fieldLink RX3 42 "ArrayHouse$Places" "guards" "[I" : Cond) = .arrayClass ty) := ⟨in_t1 (List.mem_of_getElem? (i := 177) rfl), Or.inl rfl⟩
set_option maxRecDepth 100000 in
theorem mw_57 : (.fieldLink RX3 45 "ArrayHouse$Places" "state" "LArrayHouse$State;" : Cond) ∈ WA := inB_1 (List.mem_of_getElem? (i := 25) rfl)
set_option maxRecDepth 100000 in
theorem ml_57 : (.fieldLink RX3 45 "ArrayHouse$Places" "state" "LArrayHouse$State;" : Cond) ∈ lw_tbl ∧ (((.fieldLink RX3 45 "ArrayHouse$Places" "state" "LArrayHouse$State;" : Cond).onTables && (.fieldLink RX3 45 "ArrayHouse$Places" "state" "LArrayHouse$State;" : Cond).keeps) = true ∨ ∃ ty, (.fieldLink RX3 45 "ArrayHouse$Places" "state" "LArrayHouse$State;" : Cond) = .arrayClass ty) := ⟨in_t1 (List.mem_of_getElem? (i := 156) rfl), Or.inl rfl⟩
set_option maxRecDepth 100000 in
theorem mw_58 : (.fieldLink RX3 49 "ArrayHouse$Places" "heap" "LArrayHouse$Heap;" : Cond) ∈ WA := inB_1 (List.mem_of_getElem? (i := 26) rfl)
set_option maxRecDepth 100000 in
theorem ml_58 : (.fieldLink RX3 49 "ArrayHouse$Places" "heap" "LArrayHouse$Heap;" : Cond) ∈ lw_tbl ∧ (((.fieldLink RX3 49 "ArrayHouse$Places" "heap" "LArrayHouse$Heap;" : Cond).onTables && (.fieldLink RX3 49 "ArrayHouse$Places" "heap" "LArrayHouse$Heap;" : Cond).keeps) = true ∨ ∃ ty, (.fieldLink RX3 49 "ArrayHouse$Places" "heap" "LArrayHouse$Heap;" : Cond) = .arrayClass ty) := ⟨in_t1 (List.mem_of_getElem? (i := 157) rfl), Or.inl rfl⟩
set_option maxRecDepth 100000 in
theorem mw_59 : (.fieldLink RX3 53 "ArrayHouse$Places" "text" "LArrayHouse$Text;" : Cond) ∈ WA := inB_1 (List.mem_of_getElem? (i := 27) rfl)
set_option maxRecDepth 100000 in
theorem ml_59 : (.fieldLink RX3 53 "ArrayHouse$Places" "text" "LArrayHouse$Text;" : Cond) ∈ lw_tbl ∧ (((.fieldLink RX3 53 "ArrayHouse$Places" "text" "LArrayHouse$Text;" : Cond).onTables && (.fieldLink RX3 53 "ArrayHouse$Places" "text" "LArrayHouse$Text;" : Cond).keeps) = true ∨ ∃ ty, (.fieldLink RX3 53 "ArrayHouse$Places" "text" "LArrayHouse$Text;" : Cond) = .arrayClass ty) := ⟨in_t1 (List.mem_of_getElem? (i := 158) rfl), Or.inl rfl⟩
set_option maxRecDepth 100000 in
theorem mw_60 : (.code yX3_init cX3_init 4 none : Cond) ∈ WA := inB_1 (List.mem_of_getElem? (i := 28) rfl)
set_option maxRecDepth 100000 in
theorem ml_60 : (.code yX3_init cX3_init 4 none : Cond) ∈ lw_tbl ∧ (((.code yX3_init cX3_init 4 none : Cond).onTables && (.code yX3_init cX3_init 4 none : Cond).keeps) = true ∨ ∃ ty, (.code yX3_init cX3_init 4 none : Cond) = .arrayClass ty) := ⟨in_t1 (List.mem_of_getElem? (i := 154) rfl), Or.inl rfl⟩
set_option maxRecDepth 100000 in
theorem mw_61 : (.instanceMethod yX3_init : Cond) ∈ WA := inB_1 (List.mem_of_getElem? (i := 29) rfl)
set_option maxRecDepth 100000 in
theorem ml_61 : (.instanceMethod yX3_init : Cond) ∈ lw_tbl ∧ (((.instanceMethod yX3_init : Cond).onTables && (.instanceMethod yX3_init : Cond).keeps) = true ∨ ∃ ty, (.instanceMethod yX3_init : Cond) = .arrayClass ty) := ⟨in_t1 (List.mem_of_getElem? (i := 153) rfl), Or.inl rfl⟩
set_option maxRecDepth 100000 in
theorem mw_62 : (.fieldLink RX10 37 "ArrayHouse" "places" "LArrayHouse$Places;" : Cond) ∈ WA := inB_1 (List.mem_of_getElem? (i := 30) rfl)
set_option maxRecDepth 100000 in
theorem ml_62 : (.fieldLink RX10 37 "ArrayHouse" "places" "LArrayHouse$Places;" : Cond) ∈ lw_tbl ∧ (((.fieldLink RX10 37 "ArrayHouse" "places" "LArrayHouse$Places;" : Cond).onTables && (.fieldLink RX10 37 "ArrayHouse" "places" "LArrayHouse$Places;" : Cond).keeps) = true ∨ ∃ ty, (.fieldLink RX10 37 "ArrayHouse" "places" "LArrayHouse$Places;" : Cond) = .arrayClass ty) := ⟨in_t2 (List.mem_of_getElem? (i := 148) rfl), Or.inl rfl⟩
set_option maxRecDepth 100000 in
theorem mw_63 : (.classLink RX10 41 RX9 : Cond) ∈ WA := inB_1 (List.mem_of_getElem? (i := 31) rfl)
set_option maxRecDepth 100000 in
theorem ml_63 : (.classLink RX10 41 RX9 : Cond) ∈ lw_tbl ∧ (((.classLink RX10 41 RX9 : Cond).onTables && (.classLink RX10 41 RX9 : Cond).keeps) = true ∨ ∃ ty, (.classLink RX10 41 RX9 : Cond) = .arrayClass ty) := ⟨in_t1 (List.mem_of_getElem? (i := 217) rfl), Or.inl rfl⟩
set_option maxRecDepth 100000 in
theorem mw_64 : (.instantiable RX9 4 : Cond) ∈ WA := inB_2 (List.mem_of_getElem? (i := 0) rfl)
set_option maxRecDepth 100000 in
theorem ml_64 : (.instantiable RX9 4 : Cond) ∈ lw_tbl ∧ (((.instantiable RX9 4 : Cond).onTables && (.instantiable RX9 4 : Cond).keeps) = true ∨ ∃ ty, (.instantiable RX9 4 : Cond) = .arrayClass ty) := ⟨in_t1 (List.mem_of_getElem? (i := 218) rfl), Or.inl rfl⟩
set_option maxRecDepth 100000 in
theorem mw_65 : (.initialized RX9 : Cond) ∈ WA := inB_2 (List.mem_of_getElem? (i := 1) rfl)
set_option maxRecDepth 100000 in
theorem ml_65 : (.initialized RX9 : Cond) ∈ lw_tbl ∧ (((.initialized RX9 : Cond).onTables && (.initialized RX9 : Cond).keeps) = true ∨ ∃ ty, (.initialized RX9 : Cond) = .arrayClass ty) := ⟨in_t1 (List.mem_of_getElem? (i := 6) rfl), Or.inl rfl⟩
set_option maxRecDepth 100000 in
theorem mw_66 : (.methodLink RX9 3 Lib.objectInit : Cond) ∈ WA := inB_2 (List.mem_of_getElem? (i := 2) rfl)
set_option maxRecDepth 100000 in
theorem ml_66 : (.methodLink RX9 3 Lib.objectInit : Cond) ∈ lw_tbl ∧ (((.methodLink RX9 3 Lib.objectInit : Cond).onTables && (.methodLink RX9 3 Lib.objectInit : Cond).keeps) = true ∨ ∃ ty, (.methodLink RX9 3 Lib.objectInit : Cond) = .arrayClass ty) := ⟨in_t1 (List.mem_of_getElem? (i := 222) rfl), Or.inl rfl⟩
set_option maxRecDepth 100000 in
theorem mw_67 : (.fieldLink RX9 9 "ArrayHouse$Writer" "heap" "LArrayHouse$Heap;" : Cond) ∈ WA := inB_2 (List.mem_of_getElem? (i := 3) rfl)
set_option maxRecDepth 100000 in
theorem ml_67 : (.fieldLink RX9 9 "ArrayHouse$Writer" "heap" "LArrayHouse$Heap;" : Cond) ∈ lw_tbl ∧ (((.fieldLink RX9 9 "ArrayHouse$Writer" "heap" "LArrayHouse$Heap;" : Cond).onTables && (.fieldLink RX9 9 "ArrayHouse$Writer" "heap" "LArrayHouse$Heap;" : Cond).keeps) = true ∨ ∃ ty, (.fieldLink RX9 9 "ArrayHouse$Writer" "heap" "LArrayHouse$Heap;" : Cond) = .arrayClass ty) := ⟨in_t1 (List.mem_of_getElem? (i := 226) rfl), Or.inl rfl⟩
set_option maxRecDepth 100000 in
theorem mw_68 : (.methodLink RX9 15 Lib.Math.max.name : Cond) ∈ WA := inB_2 (List.mem_of_getElem? (i := 4) rfl)
set_option maxRecDepth 100000 in
theorem ml_68 : (.methodLink RX9 15 Lib.Math.max.name : Cond) ∈ lw_tbl ∧ (((.methodLink RX9 15 Lib.Math.max.name : Cond).onTables && (.methodLink RX9 15 Lib.Math.max.name : Cond).keeps) = true ∨ ∃ ty, (.methodLink RX9 15 Lib.Math.max.name : Cond) = .arrayClass ty) := ⟨in_t1 (List.mem_of_getElem? (i := 223) rfl), Or.inl rfl⟩
set_option maxRecDepth 100000 in
theorem mw_69 : (.static Lib.Math.max.name : Cond) ∈ WA := inB_2 (List.mem_of_getElem? (i := 5) rfl)
set_option maxRecDepth 100000 in
theorem ml_69 : (.static Lib.Math.max.name : Cond) ∈ lw_tbl ∧ (((.static Lib.Math.max.name : Cond).onTables && (.static Lib.Math.max.name : Cond).keeps) = true ∨ ∃ ty, (.static Lib.Math.max.name : Cond) = .arrayClass ty) := ⟨in_t1 (List.mem_of_getElem? (i := 224) rfl), Or.inl rfl⟩
set_option maxRecDepth 100000 in
theorem mw_70 : (.initialized "java/lang/Math" : Cond) ∈ WA := inB_2 (List.mem_of_getElem? (i := 6) rfl)
set_option maxRecDepth 100000 in
theorem ml_70 : (.initialized "java/lang/Math" : Cond) ∈ lw_tbl ∧ (((.initialized "java/lang/Math" : Cond).onTables && (.initialized "java/lang/Math" : Cond).keeps) = true ∨ ∃ ty, (.initialized "java/lang/Math" : Cond) = .arrayClass ty) := ⟨in_t1 (List.mem_of_getElem? (i := 7) rfl), Or.inl rfl⟩
set_option maxRecDepth 100000 in
theorem mw_71 : (.code Lib.Math.max.name Lib.Math.max.code 2 (some .int) : Cond) ∈ WA := inB_2 (List.mem_of_getElem? (i := 7) rfl)
set_option maxRecDepth 100000 in
theorem ml_71 : (.code Lib.Math.max.name Lib.Math.max.code 2 (some .int) : Cond) ∈ lw_tbl ∧ (((.code Lib.Math.max.name Lib.Math.max.code 2 (some .int) : Cond).onTables && (.code Lib.Math.max.name Lib.Math.max.code 2 (some .int) : Cond).keeps) = true ∨ ∃ ty, (.code Lib.Math.max.name Lib.Math.max.code 2 (some .int) : Cond) = .arrayClass ty) := ⟨in_t1 (List.mem_of_getElem? (i := 225) rfl), Or.inl rfl⟩
set_option maxRecDepth 100000 in
theorem mw_72 : (.fieldLink RX9 21 "ArrayHouse$Writer" "row" "[B" : Cond) ∈ WA := inB_2 (List.mem_of_getElem? (i := 8) rfl)
set_option maxRecDepth 100000 in
theorem ml_72 : (.fieldLink RX9 21 "ArrayHouse$Writer" "row" "[B" : Cond) ∈ lw_tbl ∧ (((.fieldLink RX9 21 "ArrayHouse$Writer" "row" "[B" : Cond).onTables && (.fieldLink RX9 21 "ArrayHouse$Writer" "row" "[B" : Cond).keeps) = true ∨ ∃ ty, (.fieldLink RX9 21 "ArrayHouse$Writer" "row" "[B" : Cond) = .arrayClass ty) := ⟨in_t1 (List.mem_of_getElem? (i := 227) rfl), Or.inl rfl⟩
set_option maxRecDepth 100000 in
theorem mw_73 : (.code yX9_init cX9_init 3 none : Cond) ∈ WA := inB_2 (List.mem_of_getElem? (i := 9) rfl)
set_option maxRecDepth 100000 in
theorem ml_73 : (.code yX9_init cX9_init 3 none : Cond) ∈ lw_tbl ∧ (((.code yX9_init cX9_init 3 none : Cond).onTables && (.code yX9_init cX9_init 3 none : Cond).keeps) = true ∨ ∃ ty, (.code yX9_init cX9_init 3 none : Cond) = .arrayClass ty) := ⟨in_t1 (List.mem_of_getElem? (i := 221) rfl), Or.inl rfl⟩
set_option maxRecDepth 100000 in
theorem mw_74 : (.instanceMethod yX9_init : Cond) ∈ WA := inB_2 (List.mem_of_getElem? (i := 10) rfl)
set_option maxRecDepth 100000 in
theorem ml_74 : (.instanceMethod yX9_init : Cond) ∈ lw_tbl ∧ (((.instanceMethod yX9_init : Cond).onTables && (.instanceMethod yX9_init : Cond).keeps) = true ∨ ∃ ty, (.instanceMethod yX9_init : Cond) = .arrayClass ty) := ⟨in_t1 (List.mem_of_getElem? (i := 220) rfl), Or.inl rfl⟩
set_option maxRecDepth 100000 in
theorem mw_75 : (.fieldLink RX10 46 "ArrayHouse" "screen" "LArrayHouse$Writer;" : Cond) ∈ WA := inB_2 (List.mem_of_getElem? (i := 11) rfl)
set_option maxRecDepth 100000 in
theorem ml_75 : (.fieldLink RX10 46 "ArrayHouse" "screen" "LArrayHouse$Writer;" : Cond) ∈ lw_tbl ∧ (((.fieldLink RX10 46 "ArrayHouse" "screen" "LArrayHouse$Writer;" : Cond).onTables && (.fieldLink RX10 46 "ArrayHouse" "screen" "LArrayHouse$Writer;" : Cond).keeps) = true ∨ ∃ ty, (.fieldLink RX10 46 "ArrayHouse" "screen" "LArrayHouse$Writer;" : Cond) = .arrayClass ty) := ⟨in_t2 (List.mem_of_getElem? (i := 149) rfl), Or.inl rfl⟩
set_option maxRecDepth 100000 in
theorem mw_76 : (.fieldLink RX10 50 "ArrayHouse" "tape" "[B" : Cond) ∈ WA := inB_2 (List.mem_of_getElem? (i := 12) rfl)
set_option maxRecDepth 100000 in
theorem ml_76 : (.fieldLink RX10 50 "ArrayHouse" "tape" "[B" : Cond) ∈ lw_tbl ∧ (((.fieldLink RX10 50 "ArrayHouse" "tape" "[B" : Cond).onTables && (.fieldLink RX10 50 "ArrayHouse" "tape" "[B" : Cond).keeps) = true ∨ ∃ ty, (.fieldLink RX10 50 "ArrayHouse" "tape" "[B" : Cond) = .arrayClass ty) := ⟨in_t2 (List.mem_of_getElem? (i := 151) rfl), Or.inl rfl⟩
set_option maxRecDepth 100000 in
theorem mw_77 : (.fieldLink RX10 54 "ArrayHouse" "path" "[I" : Cond) ∈ WA := inB_2 (List.mem_of_getElem? (i := 13) rfl)
set_option maxRecDepth 100000 in
theorem ml_77 : (.fieldLink RX10 54 "ArrayHouse" "path" "[I" : Cond) ∈ lw_tbl ∧ (((.fieldLink RX10 54 "ArrayHouse" "path" "[I" : Cond).onTables && (.fieldLink RX10 54 "ArrayHouse" "path" "[I" : Cond).keeps) = true ∨ ∃ ty, (.fieldLink RX10 54 "ArrayHouse" "path" "[I" : Cond) = .arrayClass ty) := ⟨in_t2 (List.mem_of_getElem? (i := 152) rfl), Or.inl rfl⟩
set_option maxRecDepth 100000 in
theorem mw_78 : (.fieldLink RX10 58 "ArrayHouse" "eventAt" "I" : Cond) ∈ WA := inB_2 (List.mem_of_getElem? (i := 14) rfl)
set_option maxRecDepth 100000 in
theorem ml_78 : (.fieldLink RX10 58 "ArrayHouse" "eventAt" "I" : Cond) ∈ lw_tbl ∧ (((.fieldLink RX10 58 "ArrayHouse" "eventAt" "I" : Cond).onTables && (.fieldLink RX10 58 "ArrayHouse" "eventAt" "I" : Cond).keeps) = true ∨ ∃ ty, (.fieldLink RX10 58 "ArrayHouse" "eventAt" "I" : Cond) = .arrayClass ty) := ⟨in_t2 (List.mem_of_getElem? (i := 155) rfl), Or.inl rfl⟩
set_option maxRecDepth 100000 in
theorem mw_79 : (.classLink RX10 62 RX6 : Cond) ∈ WA := inB_2 (List.mem_of_getElem? (i := 15) rfl)
set_option maxRecDepth 100000 in
theorem ml_79 : (.classLink RX10 62 RX6 : Cond) ∈ lw_tbl ∧ (((.classLink RX10 62 RX6 : Cond).onTables && (.classLink RX10 62 RX6 : Cond).keeps) = true ∨ ∃ ty, (.classLink RX10 62 RX6 : Cond) = .arrayClass ty) := ⟨in_t2 (List.mem_of_getElem? (i := 4) rfl), Or.inl rfl⟩
set_option maxRecDepth 100000 in
theorem mw_80 : (.instantiable RX6 5 : Cond) ∈ WA := inB_2 (List.mem_of_getElem? (i := 16) rfl)
set_option maxRecDepth 100000 in
theorem ml_80 : (.instantiable RX6 5 : Cond) ∈ lw_tbl ∧ (((.instantiable RX6 5 : Cond).onTables && (.instantiable RX6 5 : Cond).keeps) = true ∨ ∃ ty, (.instantiable RX6 5 : Cond) = .arrayClass ty) := ⟨in_t2 (List.mem_of_getElem? (i := 5) rfl), Or.inl rfl⟩
set_option maxRecDepth 100000 in
theorem mw_81 : (.initialized RX6 : Cond) ∈ WA := inB_2 (List.mem_of_getElem? (i := 17) rfl)
set_option maxRecDepth 100000 in
theorem ml_81 : (.initialized RX6 : Cond) ∈ lw_tbl ∧ (((.initialized RX6 : Cond).onTables && (.initialized RX6 : Cond).keeps) = true ∨ ∃ ty, (.initialized RX6 : Cond) = .arrayClass ty) := ⟨in_t1 (List.mem_of_getElem? (i := 8) rfl), Or.inl rfl⟩
set_option maxRecDepth 100000 in
theorem mw_82 : (.methodLink RX6 3 Lib.objectInit : Cond) ∈ WA := inB_2 (List.mem_of_getElem? (i := 18) rfl)
set_option maxRecDepth 100000 in
theorem ml_82 : (.methodLink RX6 3 Lib.objectInit : Cond) ∈ lw_tbl ∧ (((.methodLink RX6 3 Lib.objectInit : Cond).onTables && (.methodLink RX6 3 Lib.objectInit : Cond).keeps) = true ∨ ∃ ty, (.methodLink RX6 3 Lib.objectInit : Cond) = .arrayClass ty) := ⟨in_t2 (List.mem_of_getElem? (i := 9) rfl), Or.inl rfl⟩
set_option maxRecDepth 100000 in
theorem mw_83 : (.fieldLink RX6 9 "ArrayHouse$Shapes" "rows" "[I" : Cond) ∈ WA := inB_2 (List.mem_of_getElem? (i := 19) rfl)
set_option maxRecDepth 100000 in
theorem ml_83 : (.fieldLink RX6 9 "ArrayHouse$Shapes" "rows" "[I" : Cond) ∈ lw_tbl ∧ (((.fieldLink RX6 9 "ArrayHouse$Shapes" "rows" "[I" : Cond).onTables && (.fieldLink RX6 9 "ArrayHouse$Shapes" "rows" "[I" : Cond).keeps) = true ∨ ∃ ty, (.fieldLink RX6 9 "ArrayHouse$Shapes" "rows" "[I" : Cond) = .arrayClass ty) := ⟨in_t2 (List.mem_of_getElem? (i := 12) rfl), Or.inl rfl⟩
set_option maxRecDepth 100000 in
theorem mw_84 : (.fieldLink RX6 15 "ArrayHouse$Shapes" "turn" "[I" : Cond) ∈ WA := inB_2 (List.mem_of_getElem? (i := 20) rfl)
set_option maxRecDepth 100000 in
theorem ml_84 : (.fieldLink RX6 15 "ArrayHouse$Shapes" "turn" "[I" : Cond) ∈ lw_tbl ∧ (((.fieldLink RX6 15 "ArrayHouse$Shapes" "turn" "[I" : Cond).onTables && (.fieldLink RX6 15 "ArrayHouse$Shapes" "turn" "[I" : Cond).keeps) = true ∨ ∃ ty, (.fieldLink RX6 15 "ArrayHouse$Shapes" "turn" "[I" : Cond) = .arrayClass ty) := ⟨in_t2 (List.mem_of_getElem? (i := 13) rfl), Or.inl rfl⟩
set_option maxRecDepth 100000 in
theorem mw_85 : (.fieldLink RX6 18 "ArrayHouse$Shapes" "place" "[I" : Cond) ∈ WA := inB_2 (List.mem_of_getElem? (i := 21) rfl)
set_option maxRecDepth 100000 in
theorem ml_85 : (.fieldLink RX6 18 "ArrayHouse$Shapes" "place" "[I" : Cond) ∈ lw_tbl ∧ (((.fieldLink RX6 18 "ArrayHouse$Shapes" "place" "[I" : Cond).onTables && (.fieldLink RX6 18 "ArrayHouse$Shapes" "place" "[I" : Cond).keeps) = true ∨ ∃ ty, (.fieldLink RX6 18 "ArrayHouse$Shapes" "place" "[I" : Cond) = .arrayClass ty) := ⟨in_t2 (List.mem_of_getElem? (i := 14) rfl), Or.inl rfl⟩
set_option maxRecDepth 100000 in
theorem mw_86 : (.fieldLink RX6 21 "ArrayHouse$Shapes" "state" "LArrayHouse$State;" : Cond) ∈ WA := inB_2 (List.mem_of_getElem? (i := 22) rfl)
set_option maxRecDepth 100000 in
theorem ml_86 : (.fieldLink RX6 21 "ArrayHouse$Shapes" "state" "LArrayHouse$State;" : Cond) ∈ lw_tbl ∧ (((.fieldLink RX6 21 "ArrayHouse$Shapes" "state" "LArrayHouse$State;" : Cond).onTables && (.fieldLink RX6 21 "ArrayHouse$Shapes" "state" "LArrayHouse$State;" : Cond).keeps) = true ∨ ∃ ty, (.fieldLink RX6 21 "ArrayHouse$Shapes" "state" "LArrayHouse$State;" : Cond) = .arrayClass ty) := ⟨in_t2 (List.mem_of_getElem? (i := 10) rfl), Or.inl rfl⟩
set_option maxRecDepth 100000 in
theorem mw_87 : (.fieldLink RX6 25 "ArrayHouse$Shapes" "heap" "LArrayHouse$Heap;" : Cond) ∈ WA := inB_2 (List.mem_of_getElem? (i := 23) rfl)
set_option maxRecDepth 100000 in
theorem ml_87 : (.fieldLink RX6 25 "ArrayHouse$Shapes" "heap" "LArrayHouse$Heap;" : Cond) ∈ lw_tbl ∧ (((.fieldLink RX6 25 "ArrayHouse$Shapes" "heap" "LArrayHouse$Heap;" : Cond).onTables && (.fieldLink RX6 25 "ArrayHouse$Shapes" "heap" "LArrayHouse$Heap;" : Cond).keeps) = true ∨ ∃ ty, (.fieldLink RX6 25 "ArrayHouse$Shapes" "heap" "LArrayHouse$Heap;" : Cond) = .arrayClass ty) := ⟨in_t2 (List.mem_of_getElem? (i := 11) rfl), Or.inl rfl⟩
set_option maxRecDepth 100000 in
theorem mw_88 : (.code yX6_init cX6_init 3 none : Cond) ∈ WA := inB_2 (List.mem_of_getElem? (i := 24) rfl)
set_option maxRecDepth 100000 in
theorem ml_88 : (.code yX6_init cX6_init 3 none : Cond) ∈ lw_tbl ∧ (((.code yX6_init cX6_init 3 none : Cond).onTables && (.code yX6_init cX6_init 3 none : Cond).keeps) = true ∨ ∃ ty, (.code yX6_init cX6_init 3 none : Cond) = .arrayClass ty) := ⟨in_t2 (List.mem_of_getElem? (i := 8) rfl), Or.inl rfl⟩
set_option maxRecDepth 100000 in
theorem mw_89 : (.instanceMethod yX6_init : Cond) ∈ WA := inB_2 (List.mem_of_getElem? (i := 25) rfl)
set_option maxRecDepth 100000 in
theorem ml_89 : (.instanceMethod yX6_init : Cond) ∈ lw_tbl ∧ (((.instanceMethod yX6_init : Cond).onTables && (.instanceMethod yX6_init : Cond).keeps) = true ∨ ∃ ty, (.instanceMethod yX6_init : Cond) = .arrayClass ty) := ⟨in_t2 (List.mem_of_getElem? (i := 7) rfl), Or.inl rfl⟩
set_option maxRecDepth 100000 in
theorem mw_90 : (.classLink RX10 67 RX2 : Cond) ∈ WA := inB_2 (List.mem_of_getElem? (i := 26) rfl)
set_option maxRecDepth 100000 in
theorem ml_90 : (.classLink RX10 67 RX2 : Cond) ∈ lw_tbl ∧ (((.classLink RX10 67 RX2 : Cond).onTables && (.classLink RX10 67 RX2 : Cond).keeps) = true ∨ ∃ ty, (.classLink RX10 67 RX2 : Cond) = .arrayClass ty) := ⟨in_t2 (List.mem_of_getElem? (i := 26) rfl), Or.inl rfl⟩
set_option maxRecDepth 100000 in
theorem mw_91 : (.instantiable RX2 5 : Cond) ∈ WA := inB_2 (List.mem_of_getElem? (i := 27) rfl)
set_option maxRecDepth 100000 in
theorem ml_91 : (.instantiable RX2 5 : Cond) ∈ lw_tbl ∧ (((.instantiable RX2 5 : Cond).onTables && (.instantiable RX2 5 : Cond).keeps) = true ∨ ∃ ty, (.instantiable RX2 5 : Cond) = .arrayClass ty) := ⟨in_t2 (List.mem_of_getElem? (i := 27) rfl), Or.inl rfl⟩
set_option maxRecDepth 100000 in
theorem mw_92 : (.initialized RX2 : Cond) ∈ WA := inB_2 (List.mem_of_getElem? (i := 28) rfl)
set_option maxRecDepth 100000 in
theorem ml_92 : (.initialized RX2 : Cond) ∈ lw_tbl ∧ (((.initialized RX2 : Cond).onTables && (.initialized RX2 : Cond).keeps) = true ∨ ∃ ty, (.initialized RX2 : Cond) = .arrayClass ty) := ⟨in_t1 (List.mem_of_getElem? (i := 9) rfl), Or.inl rfl⟩
set_option maxRecDepth 100000 in
theorem mw_93 : (.methodLink RX2 3 Lib.objectInit : Cond) ∈ WA := inB_2 (List.mem_of_getElem? (i := 29) rfl)
set_option maxRecDepth 100000 in
theorem ml_93 : (.methodLink RX2 3 Lib.objectInit : Cond) ∈ lw_tbl ∧ (((.methodLink RX2 3 Lib.objectInit : Cond).onTables && (.methodLink RX2 3 Lib.objectInit : Cond).keeps) = true ∨ ∃ ty, (.methodLink RX2 3 Lib.objectInit : Cond) = .arrayClass ty) := ⟨in_t2 (List.mem_of_getElem? (i := 31) rfl), Or.inl rfl⟩
set_option maxRecDepth 100000 in
theorem mw_94 : (.fieldLink RX2 9 "ArrayHouse$Operators" "state" "LArrayHouse$State;" : Cond) ∈ WA := inB_2 (List.mem_of_getElem? (i := 30) rfl)
set_option maxRecDepth 100000 in
theorem ml_94 : (.fieldLink RX2 9 "ArrayHouse$Operators" "state" "LArrayHouse$State;" : Cond) ∈ lw_tbl ∧ (((.fieldLink RX2 9 "ArrayHouse$Operators" "state" "LArrayHouse$State;" : Cond).onTables && (.fieldLink RX2 9 "ArrayHouse$Operators" "state" "LArrayHouse$State;" : Cond).keeps) = true ∨ ∃ ty, (.fieldLink RX2 9 "ArrayHouse$Operators" "state" "LArrayHouse$State;" : Cond) = .arrayClass ty) := ⟨in_t2 (List.mem_of_getElem? (i := 32) rfl), Or.inl rfl⟩
set_option maxRecDepth 100000 in
theorem mw_95 : (.fieldLink RX2 15 "ArrayHouse$Operators" "heap" "LArrayHouse$Heap;" : Cond) ∈ WA := inB_2 (List.mem_of_getElem? (i := 31) rfl)
set_option maxRecDepth 100000 in
theorem ml_95 : (.fieldLink RX2 15 "ArrayHouse$Operators" "heap" "LArrayHouse$Heap;" : Cond) ∈ lw_tbl ∧ (((.fieldLink RX2 15 "ArrayHouse$Operators" "heap" "LArrayHouse$Heap;" : Cond).onTables && (.fieldLink RX2 15 "ArrayHouse$Operators" "heap" "LArrayHouse$Heap;" : Cond).keeps) = true ∨ ∃ ty, (.fieldLink RX2 15 "ArrayHouse$Operators" "heap" "LArrayHouse$Heap;" : Cond) = .arrayClass ty) := ⟨in_t2 (List.mem_of_getElem? (i := 33) rfl), Or.inl rfl⟩
set_option maxRecDepth 100000 in
theorem mw_96 : (.fieldLink RX2 19 "ArrayHouse$Operators" "places" "LArrayHouse$Places;" : Cond) ∈ WA := inB_3 (List.mem_of_getElem? (i := 0) rfl)
set_option maxRecDepth 100000 in
theorem ml_96 : (.fieldLink RX2 19 "ArrayHouse$Operators" "places" "LArrayHouse$Places;" : Cond) ∈ lw_tbl ∧ (((.fieldLink RX2 19 "ArrayHouse$Operators" "places" "LArrayHouse$Places;" : Cond).onTables && (.fieldLink RX2 19 "ArrayHouse$Operators" "places" "LArrayHouse$Places;" : Cond).keeps) = true ∨ ∃ ty, (.fieldLink RX2 19 "ArrayHouse$Operators" "places" "LArrayHouse$Places;" : Cond) = .arrayClass ty) := ⟨in_t2 (List.mem_of_getElem? (i := 34) rfl), Or.inl rfl⟩
set_option maxRecDepth 100000 in
theorem mw_97 : (.fieldLink RX2 23 "ArrayHouse$Operators" "shapes" "LArrayHouse$Shapes;" : Cond) ∈ WA := inB_3 (List.mem_of_getElem? (i := 1) rfl)
set_option maxRecDepth 100000 in
theorem ml_97 : (.fieldLink RX2 23 "ArrayHouse$Operators" "shapes" "LArrayHouse$Shapes;" : Cond) ∈ lw_tbl ∧ (((.fieldLink RX2 23 "ArrayHouse$Operators" "shapes" "LArrayHouse$Shapes;" : Cond).onTables && (.fieldLink RX2 23 "ArrayHouse$Operators" "shapes" "LArrayHouse$Shapes;" : Cond).keeps) = true ∨ ∃ ty, (.fieldLink RX2 23 "ArrayHouse$Operators" "shapes" "LArrayHouse$Shapes;" : Cond) = .arrayClass ty) := ⟨in_t2 (List.mem_of_getElem? (i := 35) rfl), Or.inl rfl⟩
set_option maxRecDepth 100000 in
theorem mw_98 : (.code yX2_init cX2_init 5 none : Cond) ∈ WA := inB_3 (List.mem_of_getElem? (i := 2) rfl)
set_option maxRecDepth 100000 in
theorem ml_98 : (.code yX2_init cX2_init 5 none : Cond) ∈ lw_tbl ∧ (((.code yX2_init cX2_init 5 none : Cond).onTables && (.code yX2_init cX2_init 5 none : Cond).keeps) = true ∨ ∃ ty, (.code yX2_init cX2_init 5 none : Cond) = .arrayClass ty) := ⟨in_t2 (List.mem_of_getElem? (i := 30) rfl), Or.inl rfl⟩
set_option maxRecDepth 100000 in
theorem mw_99 : (.instanceMethod yX2_init : Cond) ∈ WA := inB_3 (List.mem_of_getElem? (i := 3) rfl)
set_option maxRecDepth 100000 in
theorem ml_99 : (.instanceMethod yX2_init : Cond) ∈ lw_tbl ∧ (((.instanceMethod yX2_init : Cond).onTables && (.instanceMethod yX2_init : Cond).keeps) = true ∨ ∃ ty, (.instanceMethod yX2_init : Cond) = .arrayClass ty) := ⟨in_t2 (List.mem_of_getElem? (i := 29) rfl), Or.inl rfl⟩
set_option maxRecDepth 100000 in
theorem mw_100 : (.classLink RX10 72 RX4 : Cond) ∈ WA := inB_3 (List.mem_of_getElem? (i := 4) rfl)
set_option maxRecDepth 100000 in
theorem ml_100 : (.classLink RX10 72 RX4 : Cond) ∈ lw_tbl ∧ (((.classLink RX10 72 RX4 : Cond).onTables && (.classLink RX10 72 RX4 : Cond).keeps) = true ∨ ∃ ty, (.classLink RX10 72 RX4 : Cond) = .arrayClass ty) := ⟨in_t2 (List.mem_of_getElem? (i := 49) rfl), Or.inl rfl⟩
set_option maxRecDepth 100000 in
theorem mw_101 : (.instantiable RX4 13 : Cond) ∈ WA := inB_3 (List.mem_of_getElem? (i := 5) rfl)
set_option maxRecDepth 100000 in
theorem ml_101 : (.instantiable RX4 13 : Cond) ∈ lw_tbl ∧ (((.instantiable RX4 13 : Cond).onTables && (.instantiable RX4 13 : Cond).keeps) = true ∨ ∃ ty, (.instantiable RX4 13 : Cond) = .arrayClass ty) := ⟨in_t2 (List.mem_of_getElem? (i := 50) rfl), Or.inl rfl⟩
set_option maxRecDepth 100000 in
theorem mw_102 : (.initialized RX4 : Cond) ∈ WA := inB_3 (List.mem_of_getElem? (i := 6) rfl)
set_option maxRecDepth 100000 in
theorem ml_102 : (.initialized RX4 : Cond) ∈ lw_tbl ∧ (((.initialized RX4 : Cond).onTables && (.initialized RX4 : Cond).keeps) = true ∨ ∃ ty, (.initialized RX4 : Cond) = .arrayClass ty) := ⟨in_t1 (List.mem_of_getElem? (i := 10) rfl), Or.inl rfl⟩
set_option maxRecDepth 100000 in
theorem mw_103 : (.methodLink RX4 3 Lib.objectInit : Cond) ∈ WA := inB_3 (List.mem_of_getElem? (i := 7) rfl)
set_option maxRecDepth 100000 in
theorem ml_103 : (.methodLink RX4 3 Lib.objectInit : Cond) ∈ lw_tbl ∧ (((.methodLink RX4 3 Lib.objectInit : Cond).onTables && (.methodLink RX4 3 Lib.objectInit : Cond).keeps) = true ∨ ∃ ty, (.methodLink RX4 3 Lib.objectInit : Cond) = .arrayClass ty) := ⟨in_t2 (List.mem_of_getElem? (i := 54) rfl), Or.inl rfl⟩
set_option maxRecDepth 100000 in
theorem mw_104 : (.fieldLink RX4 9 "ArrayHouse$Reader" "rows" "[I" : Cond) ∈ WA := inB_3 (List.mem_of_getElem? (i := 8) rfl)
set_option maxRecDepth 100000 in
theorem ml_104 : (.fieldLink RX4 9 "ArrayHouse$Reader" "rows" "[I" : Cond) ∈ lw_tbl ∧ (((.fieldLink RX4 9 "ArrayHouse$Reader" "rows" "[I" : Cond).onTables && (.fieldLink RX4 9 "ArrayHouse$Reader" "rows" "[I" : Cond).keeps) = true ∨ ∃ ty, (.fieldLink RX4 9 "ArrayHouse$Reader" "rows" "[I" : Cond) = .arrayClass ty) := ⟨in_t2 (List.mem_of_getElem? (i := 111) rfl), Or.inl rfl⟩
set_option maxRecDepth 100000 in
theorem mw_105 : (.fieldLink RX4 15 "ArrayHouse$Reader" "state" "LArrayHouse$State;" : Cond) ∈ WA := inB_3 (List.mem_of_getElem? (i := 9) rfl)
set_option maxRecDepth 100000 in
theorem ml_105 : (.fieldLink RX4 15 "ArrayHouse$Reader" "state" "LArrayHouse$State;" : Cond) ∈ lw_tbl ∧ (((.fieldLink RX4 15 "ArrayHouse$Reader" "state" "LArrayHouse$State;" : Cond).onTables && (.fieldLink RX4 15 "ArrayHouse$Reader" "state" "LArrayHouse$State;" : Cond).keeps) = true ∨ ∃ ty, (.fieldLink RX4 15 "ArrayHouse$Reader" "state" "LArrayHouse$State;" : Cond) = .arrayClass ty) := ⟨in_t2 (List.mem_of_getElem? (i := 103) rfl), Or.inl rfl⟩
set_option maxRecDepth 100000 in
theorem mw_106 : (.fieldLink RX4 19 "ArrayHouse$Reader" "heap" "LArrayHouse$Heap;" : Cond) ∈ WA := inB_3 (List.mem_of_getElem? (i := 10) rfl)
set_option maxRecDepth 100000 in
theorem ml_106 : (.fieldLink RX4 19 "ArrayHouse$Reader" "heap" "LArrayHouse$Heap;" : Cond) ∈ lw_tbl ∧ (((.fieldLink RX4 19 "ArrayHouse$Reader" "heap" "LArrayHouse$Heap;" : Cond).onTables && (.fieldLink RX4 19 "ArrayHouse$Reader" "heap" "LArrayHouse$Heap;" : Cond).keeps) = true ∨ ∃ ty, (.fieldLink RX4 19 "ArrayHouse$Reader" "heap" "LArrayHouse$Heap;" : Cond) = .arrayClass ty) := ⟨in_t2 (List.mem_of_getElem? (i := 104) rfl), Or.inl rfl⟩
set_option maxRecDepth 100000 in
theorem mw_107 : (.fieldLink RX4 23 "ArrayHouse$Reader" "text" "LArrayHouse$Text;" : Cond) ∈ WA := inB_3 (List.mem_of_getElem? (i := 11) rfl)
set_option maxRecDepth 100000 in
theorem ml_107 : (.fieldLink RX4 23 "ArrayHouse$Reader" "text" "LArrayHouse$Text;" : Cond) ∈ lw_tbl ∧ (((.fieldLink RX4 23 "ArrayHouse$Reader" "text" "LArrayHouse$Text;" : Cond).onTables && (.fieldLink RX4 23 "ArrayHouse$Reader" "text" "LArrayHouse$Text;" : Cond).keeps) = true ∨ ∃ ty, (.fieldLink RX4 23 "ArrayHouse$Reader" "text" "LArrayHouse$Text;" : Cond) = .arrayClass ty) := ⟨in_t2 (List.mem_of_getElem? (i := 105) rfl), Or.inl rfl⟩
set_option maxRecDepth 100000 in
theorem mw_108 : (.fieldLink RX4 27 "ArrayHouse$Reader" "places" "LArrayHouse$Places;" : Cond) ∈ WA := inB_3 (List.mem_of_getElem? (i := 12) rfl)
set_option maxRecDepth 100000 in
theorem ml_108 : (.fieldLink RX4 27 "ArrayHouse$Reader" "places" "LArrayHouse$Places;" : Cond) ∈ lw_tbl ∧ (((.fieldLink RX4 27 "ArrayHouse$Reader" "places" "LArrayHouse$Places;" : Cond).onTables && (.fieldLink RX4 27 "ArrayHouse$Reader" "places" "LArrayHouse$Places;" : Cond).keeps) = true ∨ ∃ ty, (.fieldLink RX4 27 "ArrayHouse$Reader" "places" "LArrayHouse$Places;" : Cond) = .arrayClass ty) := ⟨in_t2 (List.mem_of_getElem? (i := 106) rfl), Or.inl rfl⟩
set_option maxRecDepth 100000 in
theorem mw_109 : (.fieldLink RX4 31 "ArrayHouse$Reader" "shapes" "LArrayHouse$Shapes;" : Cond) ∈ WA := inB_3 (List.mem_of_getElem? (i := 13) rfl)
set_option maxRecDepth 100000 in
theorem ml_109 : (.fieldLink RX4 31 "ArrayHouse$Reader" "shapes" "LArrayHouse$Shapes;" : Cond) ∈ lw_tbl ∧ (((.fieldLink RX4 31 "ArrayHouse$Reader" "shapes" "LArrayHouse$Shapes;" : Cond).onTables && (.fieldLink RX4 31 "ArrayHouse$Reader" "shapes" "LArrayHouse$Shapes;" : Cond).keeps) = true ∨ ∃ ty, (.fieldLink RX4 31 "ArrayHouse$Reader" "shapes" "LArrayHouse$Shapes;" : Cond) = .arrayClass ty) := ⟨in_t2 (List.mem_of_getElem? (i := 108) rfl), Or.inl rfl⟩
set_option maxRecDepth 100000 in
theorem mw_110 : (.fieldLink RX4 35 "ArrayHouse$Reader" "operators" "LArrayHouse$Operators;" : Cond) ∈ WA := inB_3 (List.mem_of_getElem? (i := 14) rfl)
set_option maxRecDepth 100000 in
theorem ml_110 : (.fieldLink RX4 35 "ArrayHouse$Reader" "operators" "LArrayHouse$Operators;" : Cond) ∈ lw_tbl ∧ (((.fieldLink RX4 35 "ArrayHouse$Reader" "operators" "LArrayHouse$Operators;" : Cond).onTables && (.fieldLink RX4 35 "ArrayHouse$Reader" "operators" "LArrayHouse$Operators;" : Cond).keeps) = true ∨ ∃ ty, (.fieldLink RX4 35 "ArrayHouse$Reader" "operators" "LArrayHouse$Operators;" : Cond) = .arrayClass ty) := ⟨in_t2 (List.mem_of_getElem? (i := 110) rfl), Or.inl rfl⟩
set_option maxRecDepth 100000 in
theorem mw_111 : (.classLink RX4 39 RX5 : Cond) ∈ WA := inB_3 (List.mem_of_getElem? (i := 15) rfl)
set_option maxRecDepth 100000 in
theorem ml_111 : (.classLink RX4 39 RX5 : Cond) ∈ lw_tbl ∧ (((.classLink RX4 39 RX5 : Cond).onTables && (.classLink RX4 39 RX5 : Cond).keeps) = true ∨ ∃ ty, (.classLink RX4 39 RX5 : Cond) = .arrayClass ty) := ⟨in_t2 (List.mem_of_getElem? (i := 55) rfl), Or.inl rfl⟩
set_option maxRecDepth 100000 in
theorem mw_112 : (.instantiable RX5 4 : Cond) ∈ WA := inB_3 (List.mem_of_getElem? (i := 16) rfl)
set_option maxRecDepth 100000 in
theorem ml_112 : (.instantiable RX5 4 : Cond) ∈ lw_tbl ∧ (((.instantiable RX5 4 : Cond).onTables && (.instantiable RX5 4 : Cond).keeps) = true ∨ ∃ ty, (.instantiable RX5 4 : Cond) = .arrayClass ty) := ⟨in_t2 (List.mem_of_getElem? (i := 56) rfl), Or.inl rfl⟩
set_option maxRecDepth 100000 in
theorem mw_113 : (.initialized RX5 : Cond) ∈ WA := inB_3 (List.mem_of_getElem? (i := 17) rfl)
set_option maxRecDepth 100000 in
theorem ml_113 : (.initialized RX5 : Cond) ∈ lw_tbl ∧ (((.initialized RX5 : Cond).onTables && (.initialized RX5 : Cond).keeps) = true ∨ ∃ ty, (.initialized RX5 : Cond) = .arrayClass ty) := ⟨in_t1 (List.mem_of_getElem? (i := 11) rfl), Or.inl rfl⟩
set_option maxRecDepth 100000 in
theorem mw_114 : (.methodLink RX5 3 Lib.objectInit : Cond) ∈ WA := inB_3 (List.mem_of_getElem? (i := 18) rfl)
set_option maxRecDepth 100000 in
theorem ml_114 : (.methodLink RX5 3 Lib.objectInit : Cond) ∈ lw_tbl ∧ (((.methodLink RX5 3 Lib.objectInit : Cond).onTables && (.methodLink RX5 3 Lib.objectInit : Cond).keeps) = true ∨ ∃ ty, (.methodLink RX5 3 Lib.objectInit : Cond) = .arrayClass ty) := ⟨in_t2 (List.mem_of_getElem? (i := 60) rfl), Or.inl rfl⟩
set_option maxRecDepth 100000 in
theorem mw_115 : (.fieldLink RX5 9 "ArrayHouse$Scalars" "state" "LArrayHouse$State;" : Cond) ∈ WA := inB_3 (List.mem_of_getElem? (i := 19) rfl)
set_option maxRecDepth 100000 in
theorem ml_115 : (.fieldLink RX5 9 "ArrayHouse$Scalars" "state" "LArrayHouse$State;" : Cond) ∈ lw_tbl ∧ (((.fieldLink RX5 9 "ArrayHouse$Scalars" "state" "LArrayHouse$State;" : Cond).onTables && (.fieldLink RX5 9 "ArrayHouse$Scalars" "state" "LArrayHouse$State;" : Cond).keeps) = true ∨ ∃ ty, (.fieldLink RX5 9 "ArrayHouse$Scalars" "state" "LArrayHouse$State;" : Cond) = .arrayClass ty) := ⟨in_t2 (List.mem_of_getElem? (i := 61) rfl), Or.inl rfl⟩
set_option maxRecDepth 100000 in
theorem mw_116 : (.fieldLink RX5 15 "ArrayHouse$Scalars" "heap" "LArrayHouse$Heap;" : Cond) ∈ WA := inB_3 (List.mem_of_getElem? (i := 20) rfl)
set_option maxRecDepth 100000 in
theorem ml_116 : (.fieldLink RX5 15 "ArrayHouse$Scalars" "heap" "LArrayHouse$Heap;" : Cond) ∈ lw_tbl ∧ (((.fieldLink RX5 15 "ArrayHouse$Scalars" "heap" "LArrayHouse$Heap;" : Cond).onTables && (.fieldLink RX5 15 "ArrayHouse$Scalars" "heap" "LArrayHouse$Heap;" : Cond).keeps) = true ∨ ∃ ty, (.fieldLink RX5 15 "ArrayHouse$Scalars" "heap" "LArrayHouse$Heap;" : Cond) = .arrayClass ty) := ⟨in_t2 (List.mem_of_getElem? (i := 62) rfl), Or.inl rfl⟩
set_option maxRecDepth 100000 in
theorem mw_117 : (.code yX5_init cX5_init 3 none : Cond) ∈ WA := inB_3 (List.mem_of_getElem? (i := 21) rfl)
set_option maxRecDepth 100000 in
theorem ml_117 : (.code yX5_init cX5_init 3 none : Cond) ∈ lw_tbl ∧ (((.code yX5_init cX5_init 3 none : Cond).onTables && (.code yX5_init cX5_init 3 none : Cond).keeps) = true ∨ ∃ ty, (.code yX5_init cX5_init 3 none : Cond) = .arrayClass ty) := ⟨in_t2 (List.mem_of_getElem? (i := 59) rfl), Or.inl rfl⟩
set_option maxRecDepth 100000 in
theorem mw_118 : (.instanceMethod yX5_init : Cond) ∈ WA := inB_3 (List.mem_of_getElem? (i := 22) rfl)
set_option maxRecDepth 100000 in
theorem ml_118 : (.instanceMethod yX5_init : Cond) ∈ lw_tbl ∧ (((.instanceMethod yX5_init : Cond).onTables && (.instanceMethod yX5_init : Cond).keeps) = true ∨ ∃ ty, (.instanceMethod yX5_init : Cond) = .arrayClass ty) := ⟨in_t2 (List.mem_of_getElem? (i := 58) rfl), Or.inl rfl⟩
set_option maxRecDepth 100000 in
theorem mw_119 : (.fieldLink RX4 44 "ArrayHouse$Reader" "scalars" "LArrayHouse$Scalars;" : Cond) ∈ WA := inB_3 (List.mem_of_getElem? (i := 23) rfl)
set_option maxRecDepth 100000 in
theorem ml_119 : (.fieldLink RX4 44 "ArrayHouse$Reader" "scalars" "LArrayHouse$Scalars;" : Cond) ∈ lw_tbl ∧ (((.fieldLink RX4 44 "ArrayHouse$Reader" "scalars" "LArrayHouse$Scalars;" : Cond).onTables && (.fieldLink RX4 44 "ArrayHouse$Reader" "scalars" "LArrayHouse$Scalars;" : Cond).keeps) = true ∨ ∃ ty, (.fieldLink RX4 44 "ArrayHouse$Reader" "scalars" "LArrayHouse$Scalars;" : Cond) = .arrayClass ty) := ⟨in_t2 (List.mem_of_getElem? (i := 107) rfl), Or.inl rfl⟩
set_option maxRecDepth 100000 in
theorem mw_120 : (.classLink RX4 48 RX0 : Cond) ∈ WA := inB_3 (List.mem_of_getElem? (i := 24) rfl)
set_option maxRecDepth 100000 in
theorem ml_120 : (.classLink RX4 48 RX0 : Cond) ∈ lw_tbl ∧ (((.classLink RX4 48 RX0 : Cond).onTables && (.classLink RX4 48 RX0 : Cond).keeps) = true ∨ ∃ ty, (.classLink RX4 48 RX0 : Cond) = .arrayClass ty) := ⟨in_t2 (List.mem_of_getElem? (i := 76) rfl), Or.inl rfl⟩
set_option maxRecDepth 100000 in
theorem mw_121 : (.instantiable RX0 6 : Cond) ∈ WA := inB_3 (List.mem_of_getElem? (i := 25) rfl)
set_option maxRecDepth 100000 in
theorem ml_121 : (.instantiable RX0 6 : Cond) ∈ lw_tbl ∧ (((.instantiable RX0 6 : Cond).onTables && (.instantiable RX0 6 : Cond).keeps) = true ∨ ∃ ty, (.instantiable RX0 6 : Cond) = .arrayClass ty) := ⟨in_t2 (List.mem_of_getElem? (i := 77) rfl), Or.inl rfl⟩
set_option maxRecDepth 100000 in
theorem mw_122 : (.initialized RX0 : Cond) ∈ WA := inB_3 (List.mem_of_getElem? (i := 26) rfl)
set_option maxRecDepth 100000 in
theorem ml_122 : (.initialized RX0 : Cond) ∈ lw_tbl ∧ (((.initialized RX0 : Cond).onTables && (.initialized RX0 : Cond).keeps) = true ∨ ∃ ty, (.initialized RX0 : Cond) = .arrayClass ty) := ⟨in_t1 (List.mem_of_getElem? (i := 12) rfl), Or.inl rfl⟩
set_option maxRecDepth 100000 in
theorem mw_123 : (.methodLink RX0 3 Lib.objectInit : Cond) ∈ WA := inB_3 (List.mem_of_getElem? (i := 27) rfl)
set_option maxRecDepth 100000 in
theorem ml_123 : (.methodLink RX0 3 Lib.objectInit : Cond) ∈ lw_tbl ∧ (((.methodLink RX0 3 Lib.objectInit : Cond).onTables && (.methodLink RX0 3 Lib.objectInit : Cond).keeps) = true ∨ ∃ ty, (.methodLink RX0 3 Lib.objectInit : Cond) = .arrayClass ty) := ⟨in_t2 (List.mem_of_getElem? (i := 81) rfl), Or.inl rfl⟩
set_option maxRecDepth 100000 in
theorem mw_124 : (.fieldLink RX0 9 "ArrayHouse$Finds" "rows" "[I" : Cond) ∈ WA := inB_3 (List.mem_of_getElem? (i := 28) rfl)
set_option maxRecDepth 100000 in
theorem ml_124 : (.fieldLink RX0 9 "ArrayHouse$Finds" "rows" "[I" : Cond) ∈ lw_tbl ∧ (((.fieldLink RX0 9 "ArrayHouse$Finds" "rows" "[I" : Cond).onTables && (.fieldLink RX0 9 "ArrayHouse$Finds" "rows" "[I" : Cond).keeps) = true ∨ ∃ ty, (.fieldLink RX0 9 "ArrayHouse$Finds" "rows" "[I" : Cond) = .arrayClass ty) := ⟨in_t2 (List.mem_of_getElem? (i := 88) rfl), Or.inl rfl⟩
set_option maxRecDepth 100000 in
theorem mw_125 : (.fieldLink RX0 15 "ArrayHouse$Finds" "other" "[I" : Cond) ∈ WA := inB_3 (List.mem_of_getElem? (i := 29) rfl)
set_option maxRecDepth 100000 in
theorem ml_125 : (.fieldLink RX0 15 "ArrayHouse$Finds" "other" "[I" : Cond) ∈ lw_tbl ∧ (((.fieldLink RX0 15 "ArrayHouse$Finds" "other" "[I" : Cond).onTables && (.fieldLink RX0 15 "ArrayHouse$Finds" "other" "[I" : Cond).keeps) = true ∨ ∃ ty, (.fieldLink RX0 15 "ArrayHouse$Finds" "other" "[I" : Cond) = .arrayClass ty) := ⟨in_t2 (List.mem_of_getElem? (i := 89) rfl), Or.inl rfl⟩
set_option maxRecDepth 100000 in
theorem mw_126 : (.fieldLink RX0 18 "ArrayHouse$Finds" "state" "LArrayHouse$State;" : Cond) ∈ WA := inB_3 (List.mem_of_getElem? (i := 30) rfl)
set_option maxRecDepth 100000 in
theorem ml_126 : (.fieldLink RX0 18 "ArrayHouse$Finds" "state" "LArrayHouse$State;" : Cond) ∈ lw_tbl ∧ (((.fieldLink RX0 18 "ArrayHouse$Finds" "state" "LArrayHouse$State;" : Cond).onTables && (.fieldLink RX0 18 "ArrayHouse$Finds" "state" "LArrayHouse$State;" : Cond).keeps) = true ∨ ∃ ty, (.fieldLink RX0 18 "ArrayHouse$Finds" "state" "LArrayHouse$State;" : Cond) = .arrayClass ty) := ⟨in_t2 (List.mem_of_getElem? (i := 84) rfl), Or.inl rfl⟩
set_option maxRecDepth 100000 in
theorem mw_127 : (.fieldLink RX0 22 "ArrayHouse$Finds" "heap" "LArrayHouse$Heap;" : Cond) ∈ WA := inB_3 (List.mem_of_getElem? (i := 31) rfl)
set_option maxRecDepth 100000 in
theorem ml_127 : (.fieldLink RX0 22 "ArrayHouse$Finds" "heap" "LArrayHouse$Heap;" : Cond) ∈ lw_tbl ∧ (((.fieldLink RX0 22 "ArrayHouse$Finds" "heap" "LArrayHouse$Heap;" : Cond).onTables && (.fieldLink RX0 22 "ArrayHouse$Finds" "heap" "LArrayHouse$Heap;" : Cond).keeps) = true ∨ ∃ ty, (.fieldLink RX0 22 "ArrayHouse$Finds" "heap" "LArrayHouse$Heap;" : Cond) = .arrayClass ty) := ⟨in_t2 (List.mem_of_getElem? (i := 85) rfl), Or.inl rfl⟩
set_option maxRecDepth 100000 in
theorem mw_128 : (.fieldLink RX0 26 "ArrayHouse$Finds" "scalars" "LArrayHouse$Scalars;" : Cond) ∈ WA := inB_4 (List.mem_of_getElem? (i := 0) rfl)
set_option maxRecDepth 100000 in
theorem ml_128 : (.fieldLink RX0 26 "ArrayHouse$Finds" "scalars" "LArrayHouse$Scalars;" : Cond) ∈ lw_tbl ∧ (((.fieldLink RX0 26 "ArrayHouse$Finds" "scalars" "LArrayHouse$Scalars;" : Cond).onTables && (.fieldLink RX0 26 "ArrayHouse$Finds" "scalars" "LArrayHouse$Scalars;" : Cond).keeps) = true ∨ ∃ ty, (.fieldLink RX0 26 "ArrayHouse$Finds" "scalars" "LArrayHouse$Scalars;" : Cond) = .arrayClass ty) := ⟨in_t2 (List.mem_of_getElem? (i := 86) rfl), Or.inl rfl⟩
set_option maxRecDepth 100000 in
theorem mw_129 : (.classLink RX0 30 RX9 : Cond) ∈ WA := inB_4 (List.mem_of_getElem? (i := 1) rfl)
set_option maxRecDepth 100000 in
theorem ml_129 : (.classLink RX0 30 RX9 : Cond) ∈ lw_tbl ∧ (((.classLink RX0 30 RX9 : Cond).onTables && (.classLink RX0 30 RX9 : Cond).keeps) = true ∨ ∃ ty, (.classLink RX0 30 RX9 : Cond) = .arrayClass ty) := ⟨in_t2 (List.mem_of_getElem? (i := 82) rfl), Or.inl rfl⟩
set_option maxRecDepth 100000 in
theorem mw_130 : (.fieldLink RX0 35 "ArrayHouse$Finds" "writer" "LArrayHouse$Writer;" : Cond) ∈ WA := inB_4 (List.mem_of_getElem? (i := 2) rfl)
set_option maxRecDepth 100000 in
theorem ml_130 : (.fieldLink RX0 35 "ArrayHouse$Finds" "writer" "LArrayHouse$Writer;" : Cond) ∈ lw_tbl ∧ (((.fieldLink RX0 35 "ArrayHouse$Finds" "writer" "LArrayHouse$Writer;" : Cond).onTables && (.fieldLink RX0 35 "ArrayHouse$Finds" "writer" "LArrayHouse$Writer;" : Cond).keeps) = true ∨ ∃ ty, (.fieldLink RX0 35 "ArrayHouse$Finds" "writer" "LArrayHouse$Writer;" : Cond) = .arrayClass ty) := ⟨in_t2 (List.mem_of_getElem? (i := 87) rfl), Or.inl rfl⟩
set_option maxRecDepth 100000 in
theorem mw_131 : (.code yX0_init cX0_init 4 none : Cond) ∈ WA := inB_4 (List.mem_of_getElem? (i := 3) rfl)
set_option maxRecDepth 100000 in
theorem ml_131 : (.code yX0_init cX0_init 4 none : Cond) ∈ lw_tbl ∧ (((.code yX0_init cX0_init 4 none : Cond).onTables && (.code yX0_init cX0_init 4 none : Cond).keeps) = true ∨ ∃ ty, (.code yX0_init cX0_init 4 none : Cond) = .arrayClass ty) := ⟨in_t2 (List.mem_of_getElem? (i := 80) rfl), Or.inl rfl⟩
set_option maxRecDepth 100000 in
theorem mw_132 : (.instanceMethod yX0_init : Cond) ∈ WA := inB_4 (List.mem_of_getElem? (i := 4) rfl)
set_option maxRecDepth 100000 in
theorem ml_132 : (.instanceMethod yX0_init : Cond) ∈ lw_tbl ∧ (((.instanceMethod yX0_init : Cond).onTables && (.instanceMethod yX0_init : Cond).keeps) = true ∨ ∃ ty, (.instanceMethod yX0_init : Cond) = .arrayClass ty) := ⟨in_t2 (List.mem_of_getElem? (i := 79) rfl), Or.inl rfl⟩
set_option maxRecDepth 100000 in
theorem mw_133 : (.fieldLink RX4 53 "ArrayHouse$Reader" "finds" "LArrayHouse$Finds;" : Cond) ∈ WA := inB_4 (List.mem_of_getElem? (i := 5) rfl)
set_option maxRecDepth 100000 in
theorem ml_133 : (.fieldLink RX4 53 "ArrayHouse$Reader" "finds" "LArrayHouse$Finds;" : Cond) ∈ lw_tbl ∧ (((.fieldLink RX4 53 "ArrayHouse$Reader" "finds" "LArrayHouse$Finds;" : Cond).onTables && (.fieldLink RX4 53 "ArrayHouse$Reader" "finds" "LArrayHouse$Finds;" : Cond).keeps) = true ∨ ∃ ty, (.fieldLink RX4 53 "ArrayHouse$Reader" "finds" "LArrayHouse$Finds;" : Cond) = .arrayClass ty) := ⟨in_t2 (List.mem_of_getElem? (i := 109) rfl), Or.inl rfl⟩
set_option maxRecDepth 100000 in
theorem mw_134 : (.code yX4_init cX4_init 7 none : Cond) ∈ WA := inB_4 (List.mem_of_getElem? (i := 6) rfl)
set_option maxRecDepth 100000 in
theorem ml_134 : (.code yX4_init cX4_init 7 none : Cond) ∈ lw_tbl ∧ (((.code yX4_init cX4_init 7 none : Cond).onTables && (.code yX4_init cX4_init 7 none : Cond).keeps) = true ∨ ∃ ty, (.code yX4_init cX4_init 7 none : Cond) = .arrayClass ty) := ⟨in_t2 (List.mem_of_getElem? (i := 53) rfl), Or.inl rfl⟩
set_option maxRecDepth 100000 in
theorem mw_135 : (.instanceMethod yX4_init : Cond) ∈ WA := inB_4 (List.mem_of_getElem? (i := 7) rfl)
set_option maxRecDepth 100000 in
theorem ml_135 : (.instanceMethod yX4_init : Cond) ∈ lw_tbl ∧ (((.instanceMethod yX4_init : Cond).onTables && (.instanceMethod yX4_init : Cond).keeps) = true ∨ ∃ ty, (.instanceMethod yX4_init : Cond) = .arrayClass ty) := ⟨in_t2 (List.mem_of_getElem? (i := 52) rfl), Or.inl rfl⟩
set_option maxRecDepth 100000 in
theorem mw_136 : (.fieldLink RX10 77 "ArrayHouse" "reader" "LArrayHouse$Reader;" : Cond) ∈ WA := inB_4 (List.mem_of_getElem? (i := 8) rfl)
set_option maxRecDepth 100000 in
theorem ml_136 : (.fieldLink RX10 77 "ArrayHouse" "reader" "LArrayHouse$Reader;" : Cond) ∈ lw_tbl ∧ (((.fieldLink RX10 77 "ArrayHouse" "reader" "LArrayHouse$Reader;" : Cond).onTables && (.fieldLink RX10 77 "ArrayHouse" "reader" "LArrayHouse$Reader;" : Cond).keeps) = true ∨ ∃ ty, (.fieldLink RX10 77 "ArrayHouse" "reader" "LArrayHouse$Reader;" : Cond) = .arrayClass ty) := ⟨in_t2 (List.mem_of_getElem? (i := 150) rfl), Or.inl rfl⟩
set_option maxRecDepth 100000 in
theorem mw_137 : (.code yX10_init cX10_init 3 none : Cond) ∈ WA := inB_4 (List.mem_of_getElem? (i := 9) rfl)
set_option maxRecDepth 100000 in
theorem ml_137 : (.code yX10_init cX10_init 3 none : Cond) ∈ lw_tbl ∧ (((.code yX10_init cX10_init 3 none : Cond).onTables && (.code yX10_init cX10_init 3 none : Cond).keeps) = true ∨ ∃ ty, (.code yX10_init cX10_init 3 none : Cond) = .arrayClass ty) := ⟨in_t1 (List.mem_of_getElem? (i := 27) rfl), Or.inl rfl⟩
set_option maxRecDepth 100000 in
theorem mw_138 : (.methodLink RL 9 yX10_init : Cond) ∈ WA := inB_4 (List.mem_of_getElem? (i := 10) rfl)
set_option maxRecDepth 100000 in
theorem ml_138 : (.methodLink RL 9 yX10_init : Cond) ∈ lw_tbl ∧ (((.methodLink RL 9 yX10_init : Cond).onTables && (.methodLink RL 9 yX10_init : Cond).keeps) = true ∨ ∃ ty, (.methodLink RL 9 yX10_init : Cond) = .arrayClass ty) := ⟨in_t1 (List.mem_of_getElem? (i := 25) rfl), Or.inl rfl⟩
set_option maxRecDepth 100000 in
theorem mw_139 : (.instanceMethod yX10_init : Cond) ∈ WA := inB_4 (List.mem_of_getElem? (i := 11) rfl)
set_option maxRecDepth 100000 in
theorem ml_139 : (.instanceMethod yX10_init : Cond) ∈ lw_tbl ∧ (((.instanceMethod yX10_init : Cond).onTables && (.instanceMethod yX10_init : Cond).keeps) = true ∨ ∃ ty, (.instanceMethod yX10_init : Cond) = .arrayClass ty) := ⟨in_t1 (List.mem_of_getElem? (i := 26) rfl), Or.inl rfl⟩
set_option maxRecDepth 100000 in
theorem mw_140 : (.classLink RL 10 RX11 : Cond) ∈ WA := inB_4 (List.mem_of_getElem? (i := 12) rfl)
set_option maxRecDepth 100000 in
theorem ml_140 : (.classLink RL 10 RX11 : Cond) ∈ lw_tbl ∧ (((.classLink RL 10 RX11 : Cond).onTables && (.classLink RL 10 RX11 : Cond).keeps) = true ∨ ∃ ty, (.classLink RL 10 RX11 : Cond) = .arrayClass ty) := ⟨in_t8 (List.mem_of_getElem? (i := 137) rfl), Or.inl rfl⟩
set_option maxRecDepth 100000 in
theorem mw_141 : (.instantiable RX11 76 : Cond) ∈ WA := inB_4 (List.mem_of_getElem? (i := 13) rfl)
set_option maxRecDepth 100000 in
theorem ml_141 : (.instantiable RX11 76 : Cond) ∈ lw_tbl ∧ (((.instantiable RX11 76 : Cond).onTables && (.instantiable RX11 76 : Cond).keeps) = true ∨ ∃ ty, (.instantiable RX11 76 : Cond) = .arrayClass ty) := ⟨in_t8 (List.mem_of_getElem? (i := 138) rfl), Or.inl rfl⟩
set_option maxRecDepth 100000 in
theorem mw_142 : (.initialized RX11 : Cond) ∈ WA := inB_4 (List.mem_of_getElem? (i := 14) rfl)
set_option maxRecDepth 100000 in
theorem ml_142 : (.initialized RX11 : Cond) ∈ lw_tbl ∧ (((.initialized RX11 : Cond).onTables && (.initialized RX11 : Cond).keeps) = true ∨ ∃ ty, (.initialized RX11 : Cond) = .arrayClass ty) := ⟨in_t1 (List.mem_of_getElem? (i := 13) rfl), Or.inl rfl⟩
set_option maxRecDepth 100000 in
theorem mw_143 : (.methodLink RX11 900 Lib.objectInit : Cond) ∈ WA := inB_4 (List.mem_of_getElem? (i := 15) rfl)
set_option maxRecDepth 100000 in
theorem ml_143 : (.methodLink RX11 900 Lib.objectInit : Cond) ∈ lw_tbl ∧ (((.methodLink RX11 900 Lib.objectInit : Cond).onTables && (.methodLink RX11 900 Lib.objectInit : Cond).keeps) = true ∨ ∃ ty, (.methodLink RX11 900 Lib.objectInit : Cond) = .arrayClass ty) := ⟨in_t8 (List.mem_of_getElem? (i := 142) rfl), Or.inl rfl⟩
set_option maxRecDepth 100000 in
theorem mw_144 : (.fieldLink RX11 177 "ArrayHouseModel" "origin" "I" : Cond) ∈ WA := inB_4 (List.mem_of_getElem? (i := 16) rfl)
set_option maxRecDepth 100000 in
theorem ml_144 : (.fieldLink RX11 177 "ArrayHouseModel" "origin" "I" : Cond) ∈ lw_tbl ∧ (((.fieldLink RX11 177 "ArrayHouseModel" "origin" "I" : Cond).onTables && (.fieldLink RX11 177 "ArrayHouseModel" "origin" "I" : Cond).keeps) = true ∨ ∃ ty, (.fieldLink RX11 177 "ArrayHouseModel" "origin" "I" : Cond) = .arrayClass ty) := ⟨in_t8 (List.mem_of_getElem? (i := 150) rfl), Or.inl rfl⟩
set_option maxRecDepth 100000 in
theorem mw_145 : (.fieldLink RX11 151 "ArrayHouseModel" "link" "J" : Cond) ∈ WA := inB_4 (List.mem_of_getElem? (i := 17) rfl)
set_option maxRecDepth 100000 in
theorem ml_145 : (.fieldLink RX11 151 "ArrayHouseModel" "link" "J" : Cond) ∈ lw_tbl ∧ (((.fieldLink RX11 151 "ArrayHouseModel" "link" "J" : Cond).onTables && (.fieldLink RX11 151 "ArrayHouseModel" "link" "J" : Cond).keeps) = true ∨ ∃ ty, (.fieldLink RX11 151 "ArrayHouseModel" "link" "J" : Cond) = .arrayClass ty) := ⟨in_t8 (List.mem_of_getElem? (i := 151) rfl), Or.inl rfl⟩
set_option maxRecDepth 100000 in
theorem mw_146 : (.constant RX11 906 2200000 : Cond) ∈ WA := inB_4 (List.mem_of_getElem? (i := 18) rfl)
set_option maxRecDepth 100000 in
theorem ml_146 : (.constant RX11 906 2200000 : Cond) ∈ lw_tbl ∧ (((.constant RX11 906 2200000 : Cond).onTables && (.constant RX11 906 2200000 : Cond).keeps) = true ∨ ∃ ty, (.constant RX11 906 2200000 : Cond) = .arrayClass ty) := ⟨in_t8 (List.mem_of_getElem? (i := 143) rfl), Or.inl rfl⟩
set_option maxRecDepth 100000 in
theorem mw_147 : (.fieldLink RX11 11 "ArrayHouseModel" "mem" "[I" : Cond) ∈ WA := inB_4 (List.mem_of_getElem? (i := 19) rfl)
set_option maxRecDepth 100000 in
theorem ml_147 : (.fieldLink RX11 11 "ArrayHouseModel" "mem" "[I" : Cond) ∈ lw_tbl ∧ (((.fieldLink RX11 11 "ArrayHouseModel" "mem" "[I" : Cond).onTables && (.fieldLink RX11 11 "ArrayHouseModel" "mem" "[I" : Cond).keeps) = true ∨ ∃ ty, (.fieldLink RX11 11 "ArrayHouseModel" "mem" "[I" : Cond) = .arrayClass ty) := ⟨in_t8 (List.mem_of_getElem? (i := 152) rfl), Or.inl rfl⟩
set_option maxRecDepth 100000 in
theorem mw_148 : (.constant RX11 907 1000000 : Cond) ∈ WA := inB_4 (List.mem_of_getElem? (i := 20) rfl)
set_option maxRecDepth 100000 in
theorem ml_148 : (.constant RX11 907 1000000 : Cond) ∈ lw_tbl ∧ (((.constant RX11 907 1000000 : Cond).onTables && (.constant RX11 907 1000000 : Cond).keeps) = true ∨ ∃ ty, (.constant RX11 907 1000000 : Cond) = .arrayClass ty) := ⟨in_t8 (List.mem_of_getElem? (i := 144) rfl), Or.inl rfl⟩
set_option maxRecDepth 100000 in
theorem mw_149 : (.fieldLink RX11 908 "ArrayHouseModel" "kept" "[I" : Cond) ∈ WA := inB_4 (List.mem_of_getElem? (i := 21) rfl)
set_option maxRecDepth 100000 in
theorem ml_149 : (.fieldLink RX11 908 "ArrayHouseModel" "kept" "[I" : Cond) ∈ lw_tbl ∧ (((.fieldLink RX11 908 "ArrayHouseModel" "kept" "[I" : Cond).onTables && (.fieldLink RX11 908 "ArrayHouseModel" "kept" "[I" : Cond).keeps) = true ∨ ∃ ty, (.fieldLink RX11 908 "ArrayHouseModel" "kept" "[I" : Cond) = .arrayClass ty) := ⟨in_t8 (List.mem_of_getElem? (i := 153) rfl), Or.inl rfl⟩
set_option maxRecDepth 100000 in
theorem mw_150 : (.fieldLink RX11 35 "ArrayHouseModel" "top" "I" : Cond) ∈ WA := inB_4 (List.mem_of_getElem? (i := 22) rfl)
set_option maxRecDepth 100000 in
theorem ml_150 : (.fieldLink RX11 35 "ArrayHouseModel" "top" "I" : Cond) ∈ lw_tbl ∧ (((.fieldLink RX11 35 "ArrayHouseModel" "top" "I" : Cond).onTables && (.fieldLink RX11 35 "ArrayHouseModel" "top" "I" : Cond).keeps) = true ∨ ∃ ty, (.fieldLink RX11 35 "ArrayHouseModel" "top" "I" : Cond) = .arrayClass ty) := ⟨in_t8 (List.mem_of_getElem? (i := 154) rfl), Or.inl rfl⟩
set_option maxRecDepth 100000 in
theorem mw_151 : (.fieldLink RX11 52 "ArrayHouseModel" "shape" "[I" : Cond) ∈ WA := inB_4 (List.mem_of_getElem? (i := 23) rfl)
set_option maxRecDepth 100000 in
theorem ml_151 : (.fieldLink RX11 52 "ArrayHouseModel" "shape" "[I" : Cond) ∈ lw_tbl ∧ (((.fieldLink RX11 52 "ArrayHouseModel" "shape" "[I" : Cond).onTables && (.fieldLink RX11 52 "ArrayHouseModel" "shape" "[I" : Cond).keeps) = true ∨ ∃ ty, (.fieldLink RX11 52 "ArrayHouseModel" "shape" "[I" : Cond) = .arrayClass ty) := ⟨in_t8 (List.mem_of_getElem? (i := 155) rfl), Or.inl rfl⟩
set_option maxRecDepth 100000 in
theorem mw_152 : (.fieldLink RX11 22 "ArrayHouseModel" "itemD" "I" : Cond) ∈ WA := inB_4 (List.mem_of_getElem? (i := 24) rfl)
set_option maxRecDepth 100000 in
theorem ml_152 : (.fieldLink RX11 22 "ArrayHouseModel" "itemD" "I" : Cond) ∈ lw_tbl ∧ (((.fieldLink RX11 22 "ArrayHouseModel" "itemD" "I" : Cond).onTables && (.fieldLink RX11 22 "ArrayHouseModel" "itemD" "I" : Cond).keeps) = true ∨ ∃ ty, (.fieldLink RX11 22 "ArrayHouseModel" "itemD" "I" : Cond) = .arrayClass ty) := ⟨in_t8 (List.mem_of_getElem? (i := 158) rfl), Or.inl rfl⟩
set_option maxRecDepth 100000 in
theorem mw_153 : (.fieldLink RX11 286 "ArrayHouseModel" "spots" "[I" : Cond) ∈ WA := inB_4 (List.mem_of_getElem? (i := 25) rfl)
set_option maxRecDepth 100000 in
theorem ml_153 : (.fieldLink RX11 286 "ArrayHouseModel" "spots" "[I" : Cond) ∈ lw_tbl ∧ (((.fieldLink RX11 286 "ArrayHouseModel" "spots" "[I" : Cond).onTables && (.fieldLink RX11 286 "ArrayHouseModel" "spots" "[I" : Cond).keeps) = true ∨ ∃ ty, (.fieldLink RX11 286 "ArrayHouseModel" "spots" "[I" : Cond) = .arrayClass ty) := ⟨in_t8 (List.mem_of_getElem? (i := 159) rfl), Or.inl rfl⟩
set_option maxRecDepth 100000 in
theorem mw_154 : (.fieldLink RX11 304 "ArrayHouseModel" "spotsToo" "[I" : Cond) ∈ WA := inB_4 (List.mem_of_getElem? (i := 26) rfl)
set_option maxRecDepth 100000 in
theorem ml_154 : (.fieldLink RX11 304 "ArrayHouseModel" "spotsToo" "[I" : Cond) ∈ lw_tbl ∧ (((.fieldLink RX11 304 "ArrayHouseModel" "spotsToo" "[I" : Cond).onTables && (.fieldLink RX11 304 "ArrayHouseModel" "spotsToo" "[I" : Cond).keeps) = true ∨ ∃ ty, (.fieldLink RX11 304 "ArrayHouseModel" "spotsToo" "[I" : Cond) = .arrayClass ty) := ⟨in_t8 (List.mem_of_getElem? (i := 160) rfl), Or.inl rfl⟩
set_option maxRecDepth 100000 in
theorem mw_155 : (.fieldLink RX11 96 "ArrayHouseModel" "fills" "[I" : Cond) ∈ WA := inB_4 (List.mem_of_getElem? (i := 27) rfl)
set_option maxRecDepth 100000 in
theorem ml_155 : (.fieldLink RX11 96 "ArrayHouseModel" "fills" "[I" : Cond) ∈ lw_tbl ∧ (((.fieldLink RX11 96 "ArrayHouseModel" "fills" "[I" : Cond).onTables && (.fieldLink RX11 96 "ArrayHouseModel" "fills" "[I" : Cond).keeps) = true ∨ ∃ ty, (.fieldLink RX11 96 "ArrayHouseModel" "fills" "[I" : Cond) = .arrayClass ty) := ⟨in_t8 (List.mem_of_getElem? (i := 161) rfl), Or.inl rfl⟩
set_option maxRecDepth 100000 in
theorem mw_156 : (.fieldLink RX11 333 "ArrayHouseModel" "said" "[B" : Cond) ∈ WA := inB_4 (List.mem_of_getElem? (i := 28) rfl)
set_option maxRecDepth 100000 in
theorem ml_156 : (.fieldLink RX11 333 "ArrayHouseModel" "said" "[B" : Cond) ∈ lw_tbl ∧ (((.fieldLink RX11 333 "ArrayHouseModel" "said" "[B" : Cond).onTables && (.fieldLink RX11 333 "ArrayHouseModel" "said" "[B" : Cond).keeps) = true ∨ ∃ ty, (.fieldLink RX11 333 "ArrayHouseModel" "said" "[B" : Cond) = .arrayClass ty) := ⟨in_t8 (List.mem_of_getElem? (i := 163) rfl), Or.inl rfl⟩
set_option maxRecDepth 100000 in
theorem mw_157 : (.fieldLink RX11 340 "ArrayHouseModel" "spoken" "[B" : Cond) ∈ WA := inB_4 (List.mem_of_getElem? (i := 29) rfl)
set_option maxRecDepth 100000 in
theorem ml_157 : (.fieldLink RX11 340 "ArrayHouseModel" "spoken" "[B" : Cond) ∈ lw_tbl ∧ (((.fieldLink RX11 340 "ArrayHouseModel" "spoken" "[B" : Cond).onTables && (.fieldLink RX11 340 "ArrayHouseModel" "spoken" "[B" : Cond).keeps) = true ∨ ∃ ty, (.fieldLink RX11 340 "ArrayHouseModel" "spoken" "[B" : Cond) = .arrayClass ty) := ⟨in_t8 (List.mem_of_getElem? (i := 165) rfl), Or.inl rfl⟩
set_option maxRecDepth 100000 in
theorem mw_158 : (.constant RX11 911 130000 : Cond) ∈ WA := inB_4 (List.mem_of_getElem? (i := 30) rfl)
set_option maxRecDepth 100000 in
theorem ml_158 : (.constant RX11 911 130000 : Cond) ∈ lw_tbl ∧ (((.constant RX11 911 130000 : Cond).onTables && (.constant RX11 911 130000 : Cond).keeps) = true ∨ ∃ ty, (.constant RX11 911 130000 : Cond) = .arrayClass ty) := ⟨in_t8 (List.mem_of_getElem? (i := 145) rfl), Or.inl rfl⟩
set_option maxRecDepth 100000 in
theorem mw_159 : (.fieldLink RX11 530 "ArrayHouseModel" "wait" "[I" : Cond) ∈ WA := inB_4 (List.mem_of_getElem? (i := 31) rfl)
set_option maxRecDepth 100000 in
theorem ml_159 : (.fieldLink RX11 530 "ArrayHouseModel" "wait" "[I" : Cond) ∈ lw_tbl ∧ (((.fieldLink RX11 530 "ArrayHouseModel" "wait" "[I" : Cond).onTables && (.fieldLink RX11 530 "ArrayHouseModel" "wait" "[I" : Cond).keeps) = true ∨ ∃ ty, (.fieldLink RX11 530 "ArrayHouseModel" "wait" "[I" : Cond) = .arrayClass ty) := ⟨in_t8 (List.mem_of_getElem? (i := 168) rfl), Or.inl rfl⟩
set_option maxRecDepth 100000 in
theorem mw_160 : (.constant RX11 912 60000 : Cond) ∈ WA := inB_5 (List.mem_of_getElem? (i := 0) rfl)
set_option maxRecDepth 100000 in
theorem ml_160 : (.constant RX11 912 60000 : Cond) ∈ lw_tbl ∧ (((.constant RX11 912 60000 : Cond).onTables && (.constant RX11 912 60000 : Cond).keeps) = true ∨ ∃ ty, (.constant RX11 912 60000 : Cond) = .arrayClass ty) := ⟨in_t8 (List.mem_of_getElem? (i := 146) rfl), Or.inl rfl⟩
set_option maxRecDepth 100000 in
theorem mw_161 : (.fieldLink RX11 556 "ArrayHouseModel" "bytes" "[B" : Cond) ∈ WA := inB_5 (List.mem_of_getElem? (i := 1) rfl)
set_option maxRecDepth 100000 in
theorem ml_161 : (.fieldLink RX11 556 "ArrayHouseModel" "bytes" "[B" : Cond) ∈ lw_tbl ∧ (((.fieldLink RX11 556 "ArrayHouseModel" "bytes" "[B" : Cond).onTables && (.fieldLink RX11 556 "ArrayHouseModel" "bytes" "[B" : Cond).keeps) = true ∨ ∃ ty, (.fieldLink RX11 556 "ArrayHouseModel" "bytes" "[B" : Cond) = .arrayClass ty) := ⟨in_t8 (List.mem_of_getElem? (i := 170) rfl), Or.inl rfl⟩
set_option maxRecDepth 100000 in
theorem mw_162 : (.fieldLink RX11 559 "ArrayHouseModel" "kind" "[I" : Cond) ∈ WA := inB_5 (List.mem_of_getElem? (i := 2) rfl)
set_option maxRecDepth 100000 in
theorem ml_162 : (.fieldLink RX11 559 "ArrayHouseModel" "kind" "[I" : Cond) ∈ lw_tbl ∧ (((.fieldLink RX11 559 "ArrayHouseModel" "kind" "[I" : Cond).onTables && (.fieldLink RX11 559 "ArrayHouseModel" "kind" "[I" : Cond).keeps) = true ∨ ∃ ty, (.fieldLink RX11 559 "ArrayHouseModel" "kind" "[I" : Cond) = .arrayClass ty) := ⟨in_t8 (List.mem_of_getElem? (i := 172) rfl), Or.inl rfl⟩
set_option maxRecDepth 100000 in
theorem mw_163 : (.fieldLink RX11 565 "ArrayHouseModel" "low" "[I" : Cond) ∈ WA := inB_5 (List.mem_of_getElem? (i := 3) rfl)
set_option maxRecDepth 100000 in
theorem ml_163 : (.fieldLink RX11 565 "ArrayHouseModel" "low" "[I" : Cond) ∈ lw_tbl ∧ (((.fieldLink RX11 565 "ArrayHouseModel" "low" "[I" : Cond).onTables && (.fieldLink RX11 565 "ArrayHouseModel" "low" "[I" : Cond).keeps) = true ∨ ∃ ty, (.fieldLink RX11 565 "ArrayHouseModel" "low" "[I" : Cond) = .arrayClass ty) := ⟨in_t8 (List.mem_of_getElem? (i := 173) rfl), Or.inl rfl⟩
set_option maxRecDepth 100000 in
theorem mw_164 : (.fieldLink RX11 568 "ArrayHouseModel" "high" "[I" : Cond) ∈ WA := inB_5 (List.mem_of_getElem? (i := 4) rfl)
set_option maxRecDepth 100000 in
theorem ml_164 : (.fieldLink RX11 568 "ArrayHouseModel" "high" "[I" : Cond) ∈ lw_tbl ∧ (((.fieldLink RX11 568 "ArrayHouseModel" "high" "[I" : Cond).onTables && (.fieldLink RX11 568 "ArrayHouseModel" "high" "[I" : Cond).keeps) = true ∨ ∃ ty, (.fieldLink RX11 568 "ArrayHouseModel" "high" "[I" : Cond) = .arrayClass ty) := ⟨in_t8 (List.mem_of_getElem? (i := 174) rfl), Or.inl rfl⟩
set_option maxRecDepth 100000 in
theorem mw_165 : (.fieldLink RX11 571 "ArrayHouseModel" "from" "[I" : Cond) ∈ WA := inB_5 (List.mem_of_getElem? (i := 5) rfl)
set_option maxRecDepth 100000 in
theorem ml_165 : (.fieldLink RX11 571 "ArrayHouseModel" "from" "[I" : Cond) ∈ lw_tbl ∧ (((.fieldLink RX11 571 "ArrayHouseModel" "from" "[I" : Cond).onTables && (.fieldLink RX11 571 "ArrayHouseModel" "from" "[I" : Cond).keeps) = true ∨ ∃ ty, (.fieldLink RX11 571 "ArrayHouseModel" "from" "[I" : Cond) = .arrayClass ty) := ⟨in_t8 (List.mem_of_getElem? (i := 175) rfl), Or.inl rfl⟩
set_option maxRecDepth 100000 in
theorem mw_166 : (.fieldLink RX11 574 "ArrayHouseModel" "to" "[I" : Cond) ∈ WA := inB_5 (List.mem_of_getElem? (i := 6) rfl)
set_option maxRecDepth 100000 in
theorem ml_166 : (.fieldLink RX11 574 "ArrayHouseModel" "to" "[I" : Cond) ∈ lw_tbl ∧ (((.fieldLink RX11 574 "ArrayHouseModel" "to" "[I" : Cond).onTables && (.fieldLink RX11 574 "ArrayHouseModel" "to" "[I" : Cond).keeps) = true ∨ ∃ ty, (.fieldLink RX11 574 "ArrayHouseModel" "to" "[I" : Cond) = .arrayClass ty) := ⟨in_t8 (List.mem_of_getElem? (i := 176) rfl), Or.inl rfl⟩
set_option maxRecDepth 100000 in
theorem mw_167 : (.fieldLink RX11 580 "ArrayHouseModel" "partner" "[I" : Cond) ∈ WA := inB_5 (List.mem_of_getElem? (i := 7) rfl)
set_option maxRecDepth 100000 in
theorem ml_167 : (.fieldLink RX11 580 "ArrayHouseModel" "partner" "[I" : Cond) ∈ lw_tbl ∧ (((.fieldLink RX11 580 "ArrayHouseModel" "partner" "[I" : Cond).onTables && (.fieldLink RX11 580 "ArrayHouseModel" "partner" "[I" : Cond).keeps) = true ∨ ∃ ty, (.fieldLink RX11 580 "ArrayHouseModel" "partner" "[I" : Cond) = .arrayClass ty) := ⟨in_t8 (List.mem_of_getElem? (i := 177) rfl), Or.inl rfl⟩
set_option maxRecDepth 100000 in
theorem mw_168 : (.fieldLink RX11 583 "ArrayHouseModel" "literal" "[I" : Cond) ∈ WA := inB_5 (List.mem_of_getElem? (i := 8) rfl)
set_option maxRecDepth 100000 in
theorem ml_168 : (.fieldLink RX11 583 "ArrayHouseModel" "literal" "[I" : Cond) ∈ lw_tbl ∧ (((.fieldLink RX11 583 "ArrayHouseModel" "literal" "[I" : Cond).onTables && (.fieldLink RX11 583 "ArrayHouseModel" "literal" "[I" : Cond).keeps) = true ∨ ∃ ty, (.fieldLink RX11 583 "ArrayHouseModel" "literal" "[I" : Cond) = .arrayClass ty) := ⟨in_t8 (List.mem_of_getElem? (i := 178) rfl), Or.inl rfl⟩
set_option maxRecDepth 100000 in
theorem mw_169 : (.fieldLink RX11 653 "ArrayHouseModel" "meant" "[I" : Cond) ∈ WA := inB_5 (List.mem_of_getElem? (i := 9) rfl)
set_option maxRecDepth 100000 in
theorem ml_169 : (.fieldLink RX11 653 "ArrayHouseModel" "meant" "[I" : Cond) ∈ lw_tbl ∧ (((.fieldLink RX11 653 "ArrayHouseModel" "meant" "[I" : Cond).onTables && (.fieldLink RX11 653 "ArrayHouseModel" "meant" "[I" : Cond).keeps) = true ∨ ∃ ty, (.fieldLink RX11 653 "ArrayHouseModel" "meant" "[I" : Cond) = .arrayClass ty) := ⟨in_t8 (List.mem_of_getElem? (i := 183) rfl), Or.inl rfl⟩
set_option maxRecDepth 100000 in
theorem mw_170 : (.fieldLink RX11 656 "ArrayHouseModel" "nameLow" "[I" : Cond) ∈ WA := inB_5 (List.mem_of_getElem? (i := 10) rfl)
set_option maxRecDepth 100000 in
theorem ml_170 : (.fieldLink RX11 656 "ArrayHouseModel" "nameLow" "[I" : Cond) ∈ lw_tbl ∧ (((.fieldLink RX11 656 "ArrayHouseModel" "nameLow" "[I" : Cond).onTables && (.fieldLink RX11 656 "ArrayHouseModel" "nameLow" "[I" : Cond).keeps) = true ∨ ∃ ty, (.fieldLink RX11 656 "ArrayHouseModel" "nameLow" "[I" : Cond) = .arrayClass ty) := ⟨in_t8 (List.mem_of_getElem? (i := 184) rfl), Or.inl rfl⟩
set_option maxRecDepth 100000 in
theorem mw_171 : (.fieldLink RX11 659 "ArrayHouseModel" "nameHigh" "[I" : Cond) ∈ WA := inB_5 (List.mem_of_getElem? (i := 11) rfl)
set_option maxRecDepth 100000 in
theorem ml_171 : (.fieldLink RX11 659 "ArrayHouseModel" "nameHigh" "[I" : Cond) ∈ lw_tbl ∧ (((.fieldLink RX11 659 "ArrayHouseModel" "nameHigh" "[I" : Cond).onTables && (.fieldLink RX11 659 "ArrayHouseModel" "nameHigh" "[I" : Cond).keeps) = true ∨ ∃ ty, (.fieldLink RX11 659 "ArrayHouseModel" "nameHigh" "[I" : Cond) = .arrayClass ty) := ⟨in_t8 (List.mem_of_getElem? (i := 185) rfl), Or.inl rfl⟩
set_option maxRecDepth 100000 in
theorem mw_172 : (.fieldLink RX11 683 "ArrayHouseModel" "meaning" "[I" : Cond) ∈ WA := inB_5 (List.mem_of_getElem? (i := 12) rfl)
set_option maxRecDepth 100000 in
theorem ml_172 : (.fieldLink RX11 683 "ArrayHouseModel" "meaning" "[I" : Cond) ∈ lw_tbl ∧ (((.fieldLink RX11 683 "ArrayHouseModel" "meaning" "[I" : Cond).onTables && (.fieldLink RX11 683 "ArrayHouseModel" "meaning" "[I" : Cond).keeps) = true ∨ ∃ ty, (.fieldLink RX11 683 "ArrayHouseModel" "meaning" "[I" : Cond) = .arrayClass ty) := ⟨in_t8 (List.mem_of_getElem? (i := 186) rfl), Or.inl rfl⟩
set_option maxRecDepth 100000 in
theorem mw_173 : (.fieldLink RX11 689 "ArrayHouseModel" "funcFrom" "[I" : Cond) ∈ WA := inB_5 (List.mem_of_getElem? (i := 13) rfl)
set_option maxRecDepth 100000 in
theorem ml_173 : (.fieldLink RX11 689 "ArrayHouseModel" "funcFrom" "[I" : Cond) ∈ lw_tbl ∧ (((.fieldLink RX11 689 "ArrayHouseModel" "funcFrom" "[I" : Cond).onTables && (.fieldLink RX11 689 "ArrayHouseModel" "funcFrom" "[I" : Cond).keeps) = true ∨ ∃ ty, (.fieldLink RX11 689 "ArrayHouseModel" "funcFrom" "[I" : Cond) = .arrayClass ty) := ⟨in_t8 (List.mem_of_getElem? (i := 187) rfl), Or.inl rfl⟩
set_option maxRecDepth 100000 in
theorem mw_174 : (.fieldLink RX11 692 "ArrayHouseModel" "funcTo" "[I" : Cond) ∈ WA := inB_5 (List.mem_of_getElem? (i := 14) rfl)
set_option maxRecDepth 100000 in
theorem ml_174 : (.fieldLink RX11 692 "ArrayHouseModel" "funcTo" "[I" : Cond) ∈ lw_tbl ∧ (((.fieldLink RX11 692 "ArrayHouseModel" "funcTo" "[I" : Cond).onTables && (.fieldLink RX11 692 "ArrayHouseModel" "funcTo" "[I" : Cond).keeps) = true ∨ ∃ ty, (.fieldLink RX11 692 "ArrayHouseModel" "funcTo" "[I" : Cond) = .arrayClass ty) := ⟨in_t8 (List.mem_of_getElem? (i := 188) rfl), Or.inl rfl⟩
set_option maxRecDepth 100000 in
theorem mw_175 : (.fieldLink RX11 668 "ArrayHouseModel" "textFrom" "[I" : Cond) ∈ WA := inB_5 (List.mem_of_getElem? (i := 15) rfl)
set_option maxRecDepth 100000 in
theorem ml_175 : (.fieldLink RX11 668 "ArrayHouseModel" "textFrom" "[I" : Cond) ∈ lw_tbl ∧ (((.fieldLink RX11 668 "ArrayHouseModel" "textFrom" "[I" : Cond).onTables && (.fieldLink RX11 668 "ArrayHouseModel" "textFrom" "[I" : Cond).keeps) = true ∨ ∃ ty, (.fieldLink RX11 668 "ArrayHouseModel" "textFrom" "[I" : Cond) = .arrayClass ty) := ⟨in_t8 (List.mem_of_getElem? (i := 189) rfl), Or.inl rfl⟩
set_option maxRecDepth 100000 in
theorem mw_176 : (.fieldLink RX11 671 "ArrayHouseModel" "textMany" "[I" : Cond) ∈ WA := inB_5 (List.mem_of_getElem? (i := 16) rfl)
set_option maxRecDepth 100000 in
theorem ml_176 : (.fieldLink RX11 671 "ArrayHouseModel" "textMany" "[I" : Cond) ∈ lw_tbl ∧ (((.fieldLink RX11 671 "ArrayHouseModel" "textMany" "[I" : Cond).onTables && (.fieldLink RX11 671 "ArrayHouseModel" "textMany" "[I" : Cond).keeps) = true ∨ ∃ ty, (.fieldLink RX11 671 "ArrayHouseModel" "textMany" "[I" : Cond) = .arrayClass ty) := ⟨in_t8 (List.mem_of_getElem? (i := 190) rfl), Or.inl rfl⟩
set_option maxRecDepth 100000 in
theorem mw_177 : (.fieldLink RX11 677 "ArrayHouseModel" "texts" "[B" : Cond) ∈ WA := inB_5 (List.mem_of_getElem? (i := 17) rfl)
set_option maxRecDepth 100000 in
theorem ml_177 : (.fieldLink RX11 677 "ArrayHouseModel" "texts" "[B" : Cond) ∈ lw_tbl ∧ (((.fieldLink RX11 677 "ArrayHouseModel" "texts" "[B" : Cond).onTables && (.fieldLink RX11 677 "ArrayHouseModel" "texts" "[B" : Cond).keeps) = true ∨ ∃ ty, (.fieldLink RX11 677 "ArrayHouseModel" "texts" "[B" : Cond) = .arrayClass ty) := ⟨in_t8 (List.mem_of_getElem? (i := 191) rfl), Or.inl rfl⟩
set_option maxRecDepth 100000 in
theorem mw_178 : (.fieldLink RX11 665 "ArrayHouseModel" "frameAround" "[I" : Cond) ∈ WA := inB_5 (List.mem_of_getElem? (i := 18) rfl)
set_option maxRecDepth 100000 in
theorem ml_178 : (.fieldLink RX11 665 "ArrayHouseModel" "frameAround" "[I" : Cond) ∈ lw_tbl ∧ (((.fieldLink RX11 665 "ArrayHouseModel" "frameAround" "[I" : Cond).onTables && (.fieldLink RX11 665 "ArrayHouseModel" "frameAround" "[I" : Cond).keeps) = true ∨ ∃ ty, (.fieldLink RX11 665 "ArrayHouseModel" "frameAround" "[I" : Cond) = .arrayClass ty) := ⟨in_t8 (List.mem_of_getElem? (i := 194) rfl), Or.inl rfl⟩
set_option maxRecDepth 100000 in
theorem mw_179 : (.fieldLink RX11 774 "ArrayHouseModel" "frameLeft" "[I" : Cond) ∈ WA := inB_5 (List.mem_of_getElem? (i := 19) rfl)
set_option maxRecDepth 100000 in
theorem ml_179 : (.fieldLink RX11 774 "ArrayHouseModel" "frameLeft" "[I" : Cond) ∈ lw_tbl ∧ (((.fieldLink RX11 774 "ArrayHouseModel" "frameLeft" "[I" : Cond).onTables && (.fieldLink RX11 774 "ArrayHouseModel" "frameLeft" "[I" : Cond).keeps) = true ∨ ∃ ty, (.fieldLink RX11 774 "ArrayHouseModel" "frameLeft" "[I" : Cond) = .arrayClass ty) := ⟨in_t8 (List.mem_of_getElem? (i := 195) rfl), Or.inl rfl⟩
set_option maxRecDepth 100000 in
theorem mw_180 : (.fieldLink RX11 777 "ArrayHouseModel" "frameRight" "[I" : Cond) ∈ WA := inB_5 (List.mem_of_getElem? (i := 20) rfl)
set_option maxRecDepth 100000 in
theorem ml_180 : (.fieldLink RX11 777 "ArrayHouseModel" "frameRight" "[I" : Cond) ∈ lw_tbl ∧ (((.fieldLink RX11 777 "ArrayHouseModel" "frameRight" "[I" : Cond).onTables && (.fieldLink RX11 777 "ArrayHouseModel" "frameRight" "[I" : Cond).keeps) = true ∨ ∃ ty, (.fieldLink RX11 777 "ArrayHouseModel" "frameRight" "[I" : Cond) = .arrayClass ty) := ⟨in_t8 (List.mem_of_getElem? (i := 196) rfl), Or.inl rfl⟩
set_option maxRecDepth 100000 in
theorem mw_181 : (.fieldLink RX11 837 "ArrayHouseModel" "frameSelf" "[I" : Cond) ∈ WA := inB_5 (List.mem_of_getElem? (i := 21) rfl)
set_option maxRecDepth 100000 in
theorem ml_181 : (.fieldLink RX11 837 "ArrayHouseModel" "frameSelf" "[I" : Cond) ∈ lw_tbl ∧ (((.fieldLink RX11 837 "ArrayHouseModel" "frameSelf" "[I" : Cond).onTables && (.fieldLink RX11 837 "ArrayHouseModel" "frameSelf" "[I" : Cond).keeps) = true ∨ ∃ ty, (.fieldLink RX11 837 "ArrayHouseModel" "frameSelf" "[I" : Cond) = .arrayClass ty) := ⟨in_t8 (List.mem_of_getElem? (i := 197) rfl), Or.inl rfl⟩
set_option maxRecDepth 100000 in
theorem mw_182 : (.fieldLink RX11 786 "ArrayHouseModel" "chosenAt" "I" : Cond) ∈ WA := inB_5 (List.mem_of_getElem? (i := 22) rfl)
set_option maxRecDepth 100000 in
theorem ml_182 : (.fieldLink RX11 786 "ArrayHouseModel" "chosenAt" "I" : Cond) ∈ lw_tbl ∧ (((.fieldLink RX11 786 "ArrayHouseModel" "chosenAt" "I" : Cond).onTables && (.fieldLink RX11 786 "ArrayHouseModel" "chosenAt" "I" : Cond).keeps) = true ∨ ∃ ty, (.fieldLink RX11 786 "ArrayHouseModel" "chosenAt" "I" : Cond) = .arrayClass ty) := ⟨in_t8 (List.mem_of_getElem? (i := 209) rfl), Or.inl rfl⟩
set_option maxRecDepth 100000 in
theorem mw_183 : (.fieldLink RX11 795 "ArrayHouseModel" "chosenName" "[I" : Cond) ∈ WA := inB_5 (List.mem_of_getElem? (i := 23) rfl)
set_option maxRecDepth 100000 in
theorem ml_183 : (.fieldLink RX11 795 "ArrayHouseModel" "chosenName" "[I" : Cond) ∈ lw_tbl ∧ (((.fieldLink RX11 795 "ArrayHouseModel" "chosenName" "[I" : Cond).onTables && (.fieldLink RX11 795 "ArrayHouseModel" "chosenName" "[I" : Cond).keeps) = true ∨ ∃ ty, (.fieldLink RX11 795 "ArrayHouseModel" "chosenName" "[I" : Cond) = .arrayClass ty) := ⟨in_t8 (List.mem_of_getElem? (i := 211) rfl), Or.inl rfl⟩
set_option maxRecDepth 100000 in
theorem mw_184 : (.fieldLink RX11 801 "ArrayHouseModel" "chosenOwn" "[I" : Cond) ∈ WA := inB_5 (List.mem_of_getElem? (i := 24) rfl)
set_option maxRecDepth 100000 in
theorem ml_184 : (.fieldLink RX11 801 "ArrayHouseModel" "chosenOwn" "[I" : Cond) ∈ lw_tbl ∧ (((.fieldLink RX11 801 "ArrayHouseModel" "chosenOwn" "[I" : Cond).onTables && (.fieldLink RX11 801 "ArrayHouseModel" "chosenOwn" "[I" : Cond).keeps) = true ∨ ∃ ty, (.fieldLink RX11 801 "ArrayHouseModel" "chosenOwn" "[I" : Cond) = .arrayClass ty) := ⟨in_t8 (List.mem_of_getElem? (i := 212) rfl), Or.inl rfl⟩
set_option maxRecDepth 100000 in
theorem mw_185 : (.fieldLink RX11 891 "ArrayHouseModel" "guardMask" "[I" : Cond) ∈ WA := inB_5 (List.mem_of_getElem? (i := 25) rfl)
set_option maxRecDepth 100000 in
theorem ml_185 : (.fieldLink RX11 891 "ArrayHouseModel" "guardMask" "[I" : Cond) ∈ lw_tbl ∧ (((.fieldLink RX11 891 "ArrayHouseModel" "guardMask" "[I" : Cond).onTables && (.fieldLink RX11 891 "ArrayHouseModel" "guardMask" "[I" : Cond).keeps) = true ∨ ∃ ty, (.fieldLink RX11 891 "ArrayHouseModel" "guardMask" "[I" : Cond) = .arrayClass ty) := ⟨in_t8 (List.mem_of_getElem? (i := 214) rfl), Or.inl rfl⟩
set_option maxRecDepth 100000 in
theorem mw_186 : (.fieldLink RX11 885 "ArrayHouseModel" "guardFrom" "[I" : Cond) ∈ WA := inB_5 (List.mem_of_getElem? (i := 26) rfl)
set_option maxRecDepth 100000 in
theorem ml_186 : (.fieldLink RX11 885 "ArrayHouseModel" "guardFrom" "[I" : Cond) ∈ lw_tbl ∧ (((.fieldLink RX11 885 "ArrayHouseModel" "guardFrom" "[I" : Cond).onTables && (.fieldLink RX11 885 "ArrayHouseModel" "guardFrom" "[I" : Cond).keeps) = true ∨ ∃ ty, (.fieldLink RX11 885 "ArrayHouseModel" "guardFrom" "[I" : Cond) = .arrayClass ty) := ⟨in_t8 (List.mem_of_getElem? (i := 215) rfl), Or.inl rfl⟩
set_option maxRecDepth 100000 in
theorem mw_187 : (.fieldLink RX11 888 "ArrayHouseModel" "guardTo" "[I" : Cond) ∈ WA := inB_5 (List.mem_of_getElem? (i := 27) rfl)
set_option maxRecDepth 100000 in
theorem ml_187 : (.fieldLink RX11 888 "ArrayHouseModel" "guardTo" "[I" : Cond) ∈ lw_tbl ∧ (((.fieldLink RX11 888 "ArrayHouseModel" "guardTo" "[I" : Cond).onTables && (.fieldLink RX11 888 "ArrayHouseModel" "guardTo" "[I" : Cond).keeps) = true ∨ ∃ ty, (.fieldLink RX11 888 "ArrayHouseModel" "guardTo" "[I" : Cond) = .arrayClass ty) := ⟨in_t8 (List.mem_of_getElem? (i := 216) rfl), Or.inl rfl⟩
set_option maxRecDepth 100000 in
theorem mw_188 : (.fieldLink RX11 913 "ArrayHouseModel" "tape" "[B" : Cond) ∈ WA := inB_5 (List.mem_of_getElem? (i := 28) rfl)
set_option maxRecDepth 100000 in
theorem ml_188 : (.fieldLink RX11 913 "ArrayHouseModel" "tape" "[B" : Cond) ∈ lw_tbl ∧ (((.fieldLink RX11 913 "ArrayHouseModel" "tape" "[B" : Cond).onTables && (.fieldLink RX11 913 "ArrayHouseModel" "tape" "[B" : Cond).keeps) = true ∨ ∃ ty, (.fieldLink RX11 913 "ArrayHouseModel" "tape" "[B" : Cond) = .arrayClass ty) := ⟨in_t8 (List.mem_of_getElem? (i := 217) rfl), Or.inl rfl⟩
set_option maxRecDepth 100000 in
theorem mw_189 : (.fieldLink RX11 916 "ArrayHouseModel" "atStatement" "I" : Cond) ∈ WA := inB_5 (List.mem_of_getElem? (i := 29) rfl)
set_option maxRecDepth 100000 in
theorem ml_189 : (.fieldLink RX11 916 "ArrayHouseModel" "atStatement" "I" : Cond) ∈ lw_tbl ∧ (((.fieldLink RX11 916 "ArrayHouseModel" "atStatement" "I" : Cond).onTables && (.fieldLink RX11 916 "ArrayHouseModel" "atStatement" "I" : Cond).keeps) = true ∨ ∃ ty, (.fieldLink RX11 916 "ArrayHouseModel" "atStatement" "I" : Cond) = .arrayClass ty) := ⟨in_t8 (List.mem_of_getElem? (i := 219) rfl), Or.inl rfl⟩
set_option maxRecDepth 100000 in
theorem mw_190 : (.fieldLink RX11 919 "ArrayHouseModel" "view" "[I" : Cond) ∈ WA := inB_5 (List.mem_of_getElem? (i := 30) rfl)
set_option maxRecDepth 100000 in
theorem ml_190 : (.fieldLink RX11 919 "ArrayHouseModel" "view" "[I" : Cond) ∈ lw_tbl ∧ (((.fieldLink RX11 919 "ArrayHouseModel" "view" "[I" : Cond).onTables && (.fieldLink RX11 919 "ArrayHouseModel" "view" "[I" : Cond).keeps) = true ∨ ∃ ty, (.fieldLink RX11 919 "ArrayHouseModel" "view" "[I" : Cond) = .arrayClass ty) := ⟨in_t8 (List.mem_of_getElem? (i := 222) rfl), Or.inl rfl⟩
set_option maxRecDepth 100000 in
theorem mw_191 : (.code yX11_init cX11_init 1 none : Cond) ∈ WA := inB_5 (List.mem_of_getElem? (i := 31) rfl)
set_option maxRecDepth 100000 in
theorem ml_191 : (.code yX11_init cX11_init 1 none : Cond) ∈ lw_tbl ∧ (((.code yX11_init cX11_init 1 none : Cond).onTables && (.code yX11_init cX11_init 1 none : Cond).keeps) = true ∨ ∃ ty, (.code yX11_init cX11_init 1 none : Cond) = .arrayClass ty) := ⟨in_t8 (List.mem_of_getElem? (i := 141) rfl), Or.inl rfl⟩
set_option maxRecDepth 100000 in
theorem mw_192 : (.methodLink RL 12 yX11_init : Cond) ∈ WA := inB_6 (List.mem_of_getElem? (i := 0) rfl)
set_option maxRecDepth 100000 in
theorem ml_192 : (.methodLink RL 12 yX11_init : Cond) ∈ lw_tbl ∧ (((.methodLink RL 12 yX11_init : Cond).onTables && (.methodLink RL 12 yX11_init : Cond).keeps) = true ∨ ∃ ty, (.methodLink RL 12 yX11_init : Cond) = .arrayClass ty) := ⟨in_t8 (List.mem_of_getElem? (i := 139) rfl), Or.inl rfl⟩
set_option maxRecDepth 100000 in
theorem mw_193 : (.instanceMethod yX11_init : Cond) ∈ WA := inB_6 (List.mem_of_getElem? (i := 1) rfl)
set_option maxRecDepth 100000 in
theorem ml_193 : (.instanceMethod yX11_init : Cond) ∈ lw_tbl ∧ (((.instanceMethod yX11_init : Cond).onTables && (.instanceMethod yX11_init : Cond).keeps) = true ∨ ∃ ty, (.instanceMethod yX11_init : Cond) = .arrayClass ty) := ⟨in_t8 (List.mem_of_getElem? (i := 140) rfl), Or.inl rfl⟩
set_option maxRecDepth 100000 in
theorem mw_194 : (.fieldLink RX10 82 "ArrayHouse" "tapeLength" "I" : Cond) ∈ WA := inB_6 (List.mem_of_getElem? (i := 2) rfl)
set_option maxRecDepth 100000 in
theorem ml_194 : (.fieldLink RX10 82 "ArrayHouse" "tapeLength" "I" : Cond) ∈ lw_tbl ∧ (((.fieldLink RX10 82 "ArrayHouse" "tapeLength" "I" : Cond).onTables && (.fieldLink RX10 82 "ArrayHouse" "tapeLength" "I" : Cond).keeps) = true ∨ ∃ ty, (.fieldLink RX10 82 "ArrayHouse" "tapeLength" "I" : Cond) = .arrayClass ty) := ⟨in_t2 (List.mem_of_getElem? (i := 153) rfl), Or.inl rfl⟩
set_option maxRecDepth 100000 in
theorem mw_195 : (.code yX10_append cX10_append 3 none : Cond) ∈ WA := inB_6 (List.mem_of_getElem? (i := 3) rfl)
set_option maxRecDepth 100000 in
theorem ml_195 : (.code yX10_append cX10_append 3 none : Cond) ∈ lw_tbl ∧ (((.code yX10_append cX10_append 3 none : Cond).onTables && (.code yX10_append cX10_append 3 none : Cond).keeps) = true ∨ ∃ ty, (.code yX10_append cX10_append 3 none : Cond) = .arrayClass ty) := ⟨in_t2 (List.mem_of_getElem? (i := 186) rfl), Or.inl rfl⟩
set_option maxRecDepth 100000 in
theorem mw_196 : (.methodLink RX10 85 yX10_append : Cond) ∈ WA := inB_6 (List.mem_of_getElem? (i := 4) rfl)
set_option maxRecDepth 100000 in
theorem ml_196 : (.methodLink RX10 85 yX10_append : Cond) ∈ lw_tbl ∧ (((.methodLink RX10 85 yX10_append : Cond).onTables && (.methodLink RX10 85 yX10_append : Cond).keeps) = true ∨ ∃ ty, (.methodLink RX10 85 yX10_append : Cond) = .arrayClass ty) := ⟨in_t2 (List.mem_of_getElem? (i := 183) rfl), Or.inl rfl⟩
set_option maxRecDepth 100000 in
theorem mw_197 : (.instanceMethod yX10_append : Cond) ∈ WA := inB_6 (List.mem_of_getElem? (i := 5) rfl)
set_option maxRecDepth 100000 in
theorem ml_197 : (.instanceMethod yX10_append : Cond) ∈ lw_tbl ∧ (((.instanceMethod yX10_append : Cond).onTables && (.instanceMethod yX10_append : Cond).keeps) = true ∨ ∃ ty, (.instanceMethod yX10_append : Cond) = .arrayClass ty) := ⟨in_t2 (List.mem_of_getElem? (i := 185) rfl), Or.inl rfl⟩
set_option maxRecDepth 100000 in
theorem mw_198 : (.selects RX10 yX10_append yX10_append : Cond) ∈ WA := inB_6 (List.mem_of_getElem? (i := 6) rfl)
set_option maxRecDepth 100000 in
theorem ml_198 : (.selects RX10 yX10_append yX10_append : Cond) ∈ lw_tbl ∧ (((.selects RX10 yX10_append yX10_append : Cond).onTables && (.selects RX10 yX10_append yX10_append : Cond).keeps) = true ∨ ∃ ty, (.selects RX10 yX10_append yX10_append : Cond) = .arrayClass ty) := ⟨in_p1 (q := (yX10_append, 11)) (List.mem_of_getElem? (i := 0) rfl), Or.inl rfl⟩
set_option maxRecDepth 100000 in
theorem mw_199 : (.code yX10_feed cX10_feed 6 (some .int) : Cond) ∈ WA := inB_6 (List.mem_of_getElem? (i := 7) rfl)
set_option maxRecDepth 100000 in
theorem ml_199 : (.code yX10_feed cX10_feed 6 (some .int) : Cond) ∈ lw_tbl ∧ (((.code yX10_feed cX10_feed 6 (some .int) : Cond).onTables && (.code yX10_feed cX10_feed 6 (some .int) : Cond).keeps) = true ∨ ∃ ty, (.code yX10_feed cX10_feed 6 (some .int) : Cond) = .arrayClass ty) := ⟨in_t2 (List.mem_of_getElem? (i := 182) rfl), Or.inl rfl⟩
set_option maxRecDepth 100000 in
theorem mw_200 : (.methodLink RL 13 yX10_feed : Cond) ∈ WA := inB_6 (List.mem_of_getElem? (i := 8) rfl)
set_option maxRecDepth 100000 in
theorem ml_200 : (.methodLink RL 13 yX10_feed : Cond) ∈ lw_tbl ∧ (((.methodLink RL 13 yX10_feed : Cond).onTables && (.methodLink RL 13 yX10_feed : Cond).keeps) = true ∨ ∃ ty, (.methodLink RL 13 yX10_feed : Cond) = .arrayClass ty) := ⟨in_t2 (List.mem_of_getElem? (i := 179) rfl), Or.inl rfl⟩
set_option maxRecDepth 100000 in
theorem mw_201 : (.instanceMethod yX10_feed : Cond) ∈ WA := inB_6 (List.mem_of_getElem? (i := 9) rfl)
set_option maxRecDepth 100000 in
theorem ml_201 : (.instanceMethod yX10_feed : Cond) ∈ lw_tbl ∧ (((.instanceMethod yX10_feed : Cond).onTables && (.instanceMethod yX10_feed : Cond).keeps) = true ∨ ∃ ty, (.instanceMethod yX10_feed : Cond) = .arrayClass ty) := ⟨in_t2 (List.mem_of_getElem? (i := 180) rfl), Or.inl rfl⟩
set_option maxRecDepth 100000 in
theorem mw_202 : (.selects RX10 yX10_feed yX10_feed : Cond) ∈ WA := inB_6 (List.mem_of_getElem? (i := 10) rfl)
set_option maxRecDepth 100000 in
theorem ml_202 : (.selects RX10 yX10_feed yX10_feed : Cond) ∈ lw_tbl ∧ (((.selects RX10 yX10_feed yX10_feed : Cond).onTables && (.selects RX10 yX10_feed yX10_feed : Cond).keeps) = true ∨ ∃ ty, (.selects RX10 yX10_feed yX10_feed : Cond) = .arrayClass ty) := ⟨in_t2 (List.mem_of_getElem? (i := 181) rfl), Or.inl rfl⟩
set_option maxRecDepth 100000 in
theorem mw_203 : (.fieldLink RX11 922 "ArrayHouseModel" "taped" "I" : Cond) ∈ WA := inB_6 (List.mem_of_getElem? (i := 11) rfl)
set_option maxRecDepth 100000 in
theorem ml_203 : (.fieldLink RX11 922 "ArrayHouseModel" "taped" "I" : Cond) ∈ lw_tbl ∧ (((.fieldLink RX11 922 "ArrayHouseModel" "taped" "I" : Cond).onTables && (.fieldLink RX11 922 "ArrayHouseModel" "taped" "I" : Cond).keeps) = true ∨ ∃ ty, (.fieldLink RX11 922 "ArrayHouseModel" "taped" "I" : Cond) = .arrayClass ty) := ⟨in_t8 (List.mem_of_getElem? (i := 218) rfl), Or.inl rfl⟩
set_option maxRecDepth 100000 in
theorem mw_204 : (.code yX11_feed cX11_feed 8 (some .int) : Cond) ∈ WA := inB_6 (List.mem_of_getElem? (i := 12) rfl)
set_option maxRecDepth 100000 in
theorem ml_204 : (.code yX11_feed cX11_feed 8 (some .int) : Cond) ∈ lw_tbl ∧ (((.code yX11_feed cX11_feed 8 (some .int) : Cond).onTables && (.code yX11_feed cX11_feed 8 (some .int) : Cond).keeps) = true ∨ ∃ ty, (.code yX11_feed cX11_feed 8 (some .int) : Cond) = .arrayClass ty) := ⟨in_t9 (List.mem_of_getElem? (i := 139) rfl), Or.inl rfl⟩
set_option maxRecDepth 100000 in
theorem mw_205 : (.methodLink RL 17 yX11_feed : Cond) ∈ WA := inB_6 (List.mem_of_getElem? (i := 13) rfl)
set_option maxRecDepth 100000 in
theorem ml_205 : (.methodLink RL 17 yX11_feed : Cond) ∈ lw_tbl ∧ (((.methodLink RL 17 yX11_feed : Cond).onTables && (.methodLink RL 17 yX11_feed : Cond).keeps) = true ∨ ∃ ty, (.methodLink RL 17 yX11_feed : Cond) = .arrayClass ty) := ⟨in_t9 (List.mem_of_getElem? (i := 136) rfl), Or.inl rfl⟩
set_option maxRecDepth 100000 in
theorem mw_206 : (.instanceMethod yX11_feed : Cond) ∈ WA := inB_6 (List.mem_of_getElem? (i := 14) rfl)
set_option maxRecDepth 100000 in
theorem ml_206 : (.instanceMethod yX11_feed : Cond) ∈ lw_tbl ∧ (((.instanceMethod yX11_feed : Cond).onTables && (.instanceMethod yX11_feed : Cond).keeps) = true ∨ ∃ ty, (.instanceMethod yX11_feed : Cond) = .arrayClass ty) := ⟨in_t9 (List.mem_of_getElem? (i := 137) rfl), Or.inl rfl⟩
set_option maxRecDepth 100000 in
theorem mw_207 : (.selects RX11 yX11_feed yX11_feed : Cond) ∈ WA := inB_6 (List.mem_of_getElem? (i := 15) rfl)
set_option maxRecDepth 100000 in
theorem ml_207 : (.selects RX11 yX11_feed yX11_feed : Cond) ∈ lw_tbl ∧ (((.selects RX11 yX11_feed yX11_feed : Cond).onTables && (.selects RX11 yX11_feed yX11_feed : Cond).keeps) = true ∨ ∃ ty, (.selects RX11 yX11_feed yX11_feed : Cond) = .arrayClass ty) := ⟨in_t9 (List.mem_of_getElem? (i := 138) rfl), Or.inl rfl⟩
set_option maxRecDepth 100000 in
theorem mw_208 : (.code yX10_trim cX10_trim 2 (some .int) : Cond) ∈ WA := inB_6 (List.mem_of_getElem? (i := 16) rfl)
set_option maxRecDepth 100000 in
theorem ml_208 : (.code yX10_trim cX10_trim 2 (some .int) : Cond) ∈ lw_tbl ∧ (((.code yX10_trim cX10_trim 2 (some .int) : Cond).onTables && (.code yX10_trim cX10_trim 2 (some .int) : Cond).keeps) = true ∨ ∃ ty, (.code yX10_trim cX10_trim 2 (some .int) : Cond) = .arrayClass ty) := ⟨in_t2 (List.mem_of_getElem? (i := 190) rfl), Or.inl rfl⟩
set_option maxRecDepth 100000 in
theorem mw_209 : (.methodLink RL 18 yX10_trim : Cond) ∈ WA := inB_6 (List.mem_of_getElem? (i := 17) rfl)
set_option maxRecDepth 100000 in
theorem ml_209 : (.methodLink RL 18 yX10_trim : Cond) ∈ lw_tbl ∧ (((.methodLink RL 18 yX10_trim : Cond).onTables && (.methodLink RL 18 yX10_trim : Cond).keeps) = true ∨ ∃ ty, (.methodLink RL 18 yX10_trim : Cond) = .arrayClass ty) := ⟨in_t2 (List.mem_of_getElem? (i := 187) rfl), Or.inl rfl⟩
set_option maxRecDepth 100000 in
theorem mw_210 : (.instanceMethod yX10_trim : Cond) ∈ WA := inB_6 (List.mem_of_getElem? (i := 18) rfl)
set_option maxRecDepth 100000 in
theorem ml_210 : (.instanceMethod yX10_trim : Cond) ∈ lw_tbl ∧ (((.instanceMethod yX10_trim : Cond).onTables && (.instanceMethod yX10_trim : Cond).keeps) = true ∨ ∃ ty, (.instanceMethod yX10_trim : Cond) = .arrayClass ty) := ⟨in_t2 (List.mem_of_getElem? (i := 188) rfl), Or.inl rfl⟩
set_option maxRecDepth 100000 in
theorem mw_211 : (.selects RX10 yX10_trim yX10_trim : Cond) ∈ WA := inB_6 (List.mem_of_getElem? (i := 19) rfl)
set_option maxRecDepth 100000 in
theorem ml_211 : (.selects RX10 yX10_trim yX10_trim : Cond) ∈ lw_tbl ∧ (((.selects RX10 yX10_trim yX10_trim : Cond).onTables && (.selects RX10 yX10_trim yX10_trim : Cond).keeps) = true ∨ ∃ ty, (.selects RX10 yX10_trim yX10_trim : Cond) = .arrayClass ty) := ⟨in_t2 (List.mem_of_getElem? (i := 189) rfl), Or.inl rfl⟩
set_option maxRecDepth 100000 in
theorem mw_212 : (.code yX11_trim cX11_trim 2 (some .int) : Cond) ∈ WA := inB_6 (List.mem_of_getElem? (i := 20) rfl)
set_option maxRecDepth 100000 in
theorem ml_212 : (.code yX11_trim cX11_trim 2 (some .int) : Cond) ∈ lw_tbl ∧ (((.code yX11_trim cX11_trim 2 (some .int) : Cond).onTables && (.code yX11_trim cX11_trim 2 (some .int) : Cond).keeps) = true ∨ ∃ ty, (.code yX11_trim cX11_trim 2 (some .int) : Cond) = .arrayClass ty) := ⟨in_t9 (List.mem_of_getElem? (i := 143) rfl), Or.inl rfl⟩
set_option maxRecDepth 100000 in
theorem mw_213 : (.methodLink RL 22 yX11_trim : Cond) ∈ WA := inB_6 (List.mem_of_getElem? (i := 21) rfl)
set_option maxRecDepth 100000 in
theorem ml_213 : (.methodLink RL 22 yX11_trim : Cond) ∈ lw_tbl ∧ (((.methodLink RL 22 yX11_trim : Cond).onTables && (.methodLink RL 22 yX11_trim : Cond).keeps) = true ∨ ∃ ty, (.methodLink RL 22 yX11_trim : Cond) = .arrayClass ty) := ⟨in_t9 (List.mem_of_getElem? (i := 140) rfl), Or.inl rfl⟩
set_option maxRecDepth 100000 in
theorem mw_214 : (.instanceMethod yX11_trim : Cond) ∈ WA := inB_6 (List.mem_of_getElem? (i := 22) rfl)
set_option maxRecDepth 100000 in
theorem ml_214 : (.instanceMethod yX11_trim : Cond) ∈ lw_tbl ∧ (((.instanceMethod yX11_trim : Cond).onTables && (.instanceMethod yX11_trim : Cond).keeps) = true ∨ ∃ ty, (.instanceMethod yX11_trim : Cond) = .arrayClass ty) := ⟨in_t9 (List.mem_of_getElem? (i := 141) rfl), Or.inl rfl⟩
set_option maxRecDepth 100000 in
theorem mw_215 : (.selects RX11 yX11_trim yX11_trim : Cond) ∈ WA := inB_6 (List.mem_of_getElem? (i := 23) rfl)
set_option maxRecDepth 100000 in
theorem ml_215 : (.selects RX11 yX11_trim yX11_trim : Cond) ∈ lw_tbl ∧ (((.selects RX11 yX11_trim yX11_trim : Cond).onTables && (.selects RX11 yX11_trim yX11_trim : Cond).keeps) = true ∨ ∃ ty, (.selects RX11 yX11_trim yX11_trim : Cond) = .arrayClass ty) := ⟨in_t9 (List.mem_of_getElem? (i := 142) rfl), Or.inl rfl⟩
set_option maxRecDepth 100000 in
theorem mw_216 : (.fieldLink RX10 92 "ArrayHouse" "pathLength" "I" : Cond) ∈ WA := inB_6 (List.mem_of_getElem? (i := 24) rfl)
set_option maxRecDepth 100000 in
theorem ml_216 : (.fieldLink RX10 92 "ArrayHouse" "pathLength" "I" : Cond) ∈ lw_tbl ∧ (((.fieldLink RX10 92 "ArrayHouse" "pathLength" "I" : Cond).onTables && (.fieldLink RX10 92 "ArrayHouse" "pathLength" "I" : Cond).keeps) = true ∨ ∃ ty, (.fieldLink RX10 92 "ArrayHouse" "pathLength" "I" : Cond) = .arrayClass ty) := ⟨in_t2 (List.mem_of_getElem? (i := 154) rfl), Or.inl rfl⟩
set_option maxRecDepth 100000 in
theorem mw_217 : (.fieldLink RX7 18 "ArrayHouse$State" "event" "I" : Cond) ∈ WA := inB_6 (List.mem_of_getElem? (i := 25) rfl)
set_option maxRecDepth 100000 in
theorem ml_217 : (.fieldLink RX7 18 "ArrayHouse$State" "event" "I" : Cond) ∈ lw_tbl ∧ (((.fieldLink RX7 18 "ArrayHouse$State" "event" "I" : Cond).onTables && (.fieldLink RX7 18 "ArrayHouse$State" "event" "I" : Cond).keeps) = true ∨ ∃ ty, (.fieldLink RX7 18 "ArrayHouse$State" "event" "I" : Cond) = .arrayClass ty) := ⟨in_t1 (List.mem_of_getElem? (i := 37) rfl), Or.inl rfl⟩
set_option maxRecDepth 100000 in
theorem mw_218 : (.fieldLink RX7 21 "ArrayHouse$State" "spent" "I" : Cond) ∈ WA := inB_6 (List.mem_of_getElem? (i := 26) rfl)
set_option maxRecDepth 100000 in
theorem ml_218 : (.fieldLink RX7 21 "ArrayHouse$State" "spent" "I" : Cond) ∈ lw_tbl ∧ (((.fieldLink RX7 21 "ArrayHouse$State" "spent" "I" : Cond).onTables && (.fieldLink RX7 21 "ArrayHouse$State" "spent" "I" : Cond).keeps) = true ∨ ∃ ty, (.fieldLink RX7 21 "ArrayHouse$State" "spent" "I" : Cond) = .arrayClass ty) := ⟨in_t1 (List.mem_of_getElem? (i := 44) rfl), Or.inl rfl⟩
set_option maxRecDepth 100000 in
theorem mw_219 : (.fieldLink RX7 24 "ArrayHouse$State" "open" "I" : Cond) ∈ WA := inB_6 (List.mem_of_getElem? (i := 27) rfl)
set_option maxRecDepth 100000 in
theorem ml_219 : (.fieldLink RX7 24 "ArrayHouse$State" "open" "I" : Cond) ∈ lw_tbl ∧ (((.fieldLink RX7 24 "ArrayHouse$State" "open" "I" : Cond).onTables && (.fieldLink RX7 24 "ArrayHouse$State" "open" "I" : Cond).keeps) = true ∨ ∃ ty, (.fieldLink RX7 24 "ArrayHouse$State" "open" "I" : Cond) = .arrayClass ty) := ⟨in_t1 (List.mem_of_getElem? (i := 46) rfl), Or.inl rfl⟩
set_option maxRecDepth 100000 in
theorem mw_220 : (.code yX7_begin cX7_begin 1 none : Cond) ∈ WA := inB_6 (List.mem_of_getElem? (i := 28) rfl)
set_option maxRecDepth 100000 in
theorem ml_220 : (.code yX7_begin cX7_begin 1 none : Cond) ∈ lw_tbl ∧ (((.code yX7_begin cX7_begin 1 none : Cond).onTables && (.code yX7_begin cX7_begin 1 none : Cond).keeps) = true ∨ ∃ ty, (.code yX7_begin cX7_begin 1 none : Cond) = .arrayClass ty) := ⟨in_t2 (List.mem_of_getElem? (i := 198) rfl), Or.inl rfl⟩
set_option maxRecDepth 100000 in
theorem mw_221 : (.instanceMethod yX7_begin : Cond) ∈ WA := inB_6 (List.mem_of_getElem? (i := 29) rfl)
set_option maxRecDepth 100000 in
theorem ml_221 : (.instanceMethod yX7_begin : Cond) ∈ lw_tbl ∧ (((.instanceMethod yX7_begin : Cond).onTables && (.instanceMethod yX7_begin : Cond).keeps) = true ∨ ∃ ty, (.instanceMethod yX7_begin : Cond) = .arrayClass ty) := ⟨in_t2 (List.mem_of_getElem? (i := 197) rfl), Or.inl rfl⟩
set_option maxRecDepth 100000 in
theorem mw_222 : (.selects RX7 yX7_begin yX7_begin : Cond) ∈ WA := inB_6 (List.mem_of_getElem? (i := 30) rfl)
set_option maxRecDepth 100000 in
theorem ml_222 : (.selects RX7 yX7_begin yX7_begin : Cond) ∈ lw_tbl ∧ (((.selects RX7 yX7_begin yX7_begin : Cond).onTables && (.selects RX7 yX7_begin yX7_begin : Cond).keeps) = true ∨ ∃ ty, (.selects RX7 yX7_begin yX7_begin : Cond) = .arrayClass ty) := ⟨in_p1 (q := (yX7_begin, 5)) (List.mem_of_getElem? (i := 1) rfl), Or.inl rfl⟩
set_option maxRecDepth 100000 in
theorem mw_223 : (.methodLink RX1 47 Lib.Math.max.name : Cond) ∈ WA := inB_6 (List.mem_of_getElem? (i := 31) rfl)
set_option maxRecDepth 100000 in
theorem ml_223 : (.methodLink RX1 47 Lib.Math.max.name : Cond) ∈ lw_tbl ∧ (((.methodLink RX1 47 Lib.Math.max.name : Cond).onTables && (.methodLink RX1 47 Lib.Math.max.name : Cond).keeps) = true ∨ ∃ ty, (.methodLink RX1 47 Lib.Math.max.name : Cond) = .arrayClass ty) := ⟨in_t2 (List.mem_of_getElem? (i := 211) rfl), Or.inl rfl⟩
set_option maxRecDepth 100000 in
theorem mw_224 : (.fieldLink RX1 182 "ArrayHouse$Heap" "spareTop" "I" : Cond) ∈ WA := inB_7 (List.mem_of_getElem? (i := 0) rfl)
set_option maxRecDepth 100000 in
theorem ml_224 : (.fieldLink RX1 182 "ArrayHouse$Heap" "spareTop" "I" : Cond) ∈ lw_tbl ∧ (((.fieldLink RX1 182 "ArrayHouse$Heap" "spareTop" "I" : Cond).onTables && (.fieldLink RX1 182 "ArrayHouse$Heap" "spareTop" "I" : Cond).keeps) = true ∨ ∃ ty, (.fieldLink RX1 182 "ArrayHouse$Heap" "spareTop" "I" : Cond) = .arrayClass ty) := ⟨in_t1 (List.mem_of_getElem? (i := 87) rfl), Or.inl rfl⟩
set_option maxRecDepth 100000 in
theorem mw_225 : (.code yX1_unsettle cX1_unsettle 2 none : Cond) ∈ WA := inB_7 (List.mem_of_getElem? (i := 1) rfl)
set_option maxRecDepth 100000 in
theorem ml_225 : (.code yX1_unsettle cX1_unsettle 2 none : Cond) ∈ lw_tbl ∧ (((.code yX1_unsettle cX1_unsettle 2 none : Cond).onTables && (.code yX1_unsettle cX1_unsettle 2 none : Cond).keeps) = true ∨ ∃ ty, (.code yX1_unsettle cX1_unsettle 2 none : Cond) = .arrayClass ty) := ⟨in_t2 (List.mem_of_getElem? (i := 210) rfl), Or.inl rfl⟩
set_option maxRecDepth 100000 in
theorem mw_226 : (.instanceMethod yX1_unsettle : Cond) ∈ WA := inB_7 (List.mem_of_getElem? (i := 2) rfl)
set_option maxRecDepth 100000 in
theorem ml_226 : (.instanceMethod yX1_unsettle : Cond) ∈ lw_tbl ∧ (((.instanceMethod yX1_unsettle : Cond).onTables && (.instanceMethod yX1_unsettle : Cond).keeps) = true ∨ ∃ ty, (.instanceMethod yX1_unsettle : Cond) = .arrayClass ty) := ⟨in_t2 (List.mem_of_getElem? (i := 209) rfl), Or.inl rfl⟩
set_option maxRecDepth 100000 in
theorem mw_227 : (.selects RX1 yX1_unsettle yX1_unsettle : Cond) ∈ WA := inB_7 (List.mem_of_getElem? (i := 3) rfl)
set_option maxRecDepth 100000 in
theorem ml_227 : (.selects RX1 yX1_unsettle yX1_unsettle : Cond) ∈ lw_tbl ∧ (((.selects RX1 yX1_unsettle yX1_unsettle : Cond).onTables && (.selects RX1 yX1_unsettle yX1_unsettle : Cond).keeps) = true ∨ ∃ ty, (.selects RX1 yX1_unsettle yX1_unsettle : Cond) = .arrayClass ty) := ⟨in_p1 (q := (yX1_unsettle, 9)) (List.mem_of_getElem? (i := 4) rfl), Or.inl rfl⟩
set_option maxRecDepth 100000 in
theorem mw_228 : (.code yX1_moved cX1_moved 9 (some .int) : Cond) ∈ WA := inB_7 (List.mem_of_getElem? (i := 4) rfl)
set_option maxRecDepth 100000 in
theorem ml_228 : (.code yX1_moved cX1_moved 9 (some .int) : Cond) ∈ lw_tbl ∧ (((.code yX1_moved cX1_moved 9 (some .int) : Cond).onTables && (.code yX1_moved cX1_moved 9 (some .int) : Cond).keeps) = true ∨ ∃ ty, (.code yX1_moved cX1_moved 9 (some .int) : Cond) = .arrayClass ty) := ⟨in_t2 (List.mem_of_getElem? (i := 215) rfl), Or.inl rfl⟩
set_option maxRecDepth 100000 in
theorem mw_229 : (.instanceMethod yX1_moved : Cond) ∈ WA := inB_7 (List.mem_of_getElem? (i := 5) rfl)
set_option maxRecDepth 100000 in
theorem ml_229 : (.instanceMethod yX1_moved : Cond) ∈ lw_tbl ∧ (((.instanceMethod yX1_moved : Cond).onTables && (.instanceMethod yX1_moved : Cond).keeps) = true ∨ ∃ ty, (.instanceMethod yX1_moved : Cond) = .arrayClass ty) := ⟨in_t2 (List.mem_of_getElem? (i := 214) rfl), Or.inl rfl⟩
set_option maxRecDepth 100000 in
theorem mw_230 : (.selects RX1 yX1_moved yX1_moved : Cond) ∈ WA := inB_7 (List.mem_of_getElem? (i := 6) rfl)
set_option maxRecDepth 100000 in
theorem ml_230 : (.selects RX1 yX1_moved yX1_moved : Cond) ∈ lw_tbl ∧ (((.selects RX1 yX1_moved yX1_moved : Cond).onTables && (.selects RX1 yX1_moved yX1_moved : Cond).keeps) = true ∨ ∃ ty, (.selects RX1 yX1_moved yX1_moved : Cond) = .arrayClass ty) := ⟨in_p1 (q := (yX1_moved, 9)) (List.mem_of_getElem? (i := 5) rfl), Or.inl rfl⟩
set_option maxRecDepth 100000 in
theorem mw_231 : (.fieldLink RX3 76 "ArrayHouse$Places" "deepest" "I" : Cond) ∈ WA := inB_7 (List.mem_of_getElem? (i := 7) rfl)
set_option maxRecDepth 100000 in
theorem ml_231 : (.fieldLink RX3 76 "ArrayHouse$Places" "deepest" "I" : Cond) ∈ lw_tbl ∧ (((.fieldLink RX3 76 "ArrayHouse$Places" "deepest" "I" : Cond).onTables && (.fieldLink RX3 76 "ArrayHouse$Places" "deepest" "I" : Cond).keeps) = true ∨ ∃ ty, (.fieldLink RX3 76 "ArrayHouse$Places" "deepest" "I" : Cond) = .arrayClass ty) := ⟨in_t1 (List.mem_of_getElem? (i := 182) rfl), Or.inl rfl⟩
set_option maxRecDepth 100000 in
theorem mw_232 : (.code yX3_firstSlot cX3_firstSlot 2 (some .int) : Cond) ∈ WA := inB_7 (List.mem_of_getElem? (i := 8) rfl)
set_option maxRecDepth 100000 in
theorem ml_232 : (.code yX3_firstSlot cX3_firstSlot 2 (some .int) : Cond) ∈ lw_tbl ∧ (((.code yX3_firstSlot cX3_firstSlot 2 (some .int) : Cond).onTables && (.code yX3_firstSlot cX3_firstSlot 2 (some .int) : Cond).keeps) = true ∨ ∃ ty, (.code yX3_firstSlot cX3_firstSlot 2 (some .int) : Cond) = .arrayClass ty) := ⟨in_t3 (List.mem_of_getElem? (i := 19) rfl), Or.inl rfl⟩
set_option maxRecDepth 100000 in
theorem mw_233 : (.methodLink RX3 61 yX3_firstSlot : Cond) ∈ WA := inB_7 (List.mem_of_getElem? (i := 9) rfl)
set_option maxRecDepth 100000 in
theorem ml_233 : (.methodLink RX3 61 yX3_firstSlot : Cond) ∈ lw_tbl ∧ (((.methodLink RX3 61 yX3_firstSlot : Cond).onTables && (.methodLink RX3 61 yX3_firstSlot : Cond).keeps) = true ∨ ∃ ty, (.methodLink RX3 61 yX3_firstSlot : Cond) = .arrayClass ty) := ⟨in_t3 (List.mem_of_getElem? (i := 16) rfl), Or.inl rfl⟩
set_option maxRecDepth 100000 in
theorem mw_234 : (.instanceMethod yX3_firstSlot : Cond) ∈ WA := inB_7 (List.mem_of_getElem? (i := 10) rfl)
set_option maxRecDepth 100000 in
theorem ml_234 : (.instanceMethod yX3_firstSlot : Cond) ∈ lw_tbl ∧ (((.instanceMethod yX3_firstSlot : Cond).onTables && (.instanceMethod yX3_firstSlot : Cond).keeps) = true ∨ ∃ ty, (.instanceMethod yX3_firstSlot : Cond) = .arrayClass ty) := ⟨in_t3 (List.mem_of_getElem? (i := 18) rfl), Or.inl rfl⟩
set_option maxRecDepth 100000 in
theorem mw_235 : (.selects RX3 yX3_firstSlot yX3_firstSlot : Cond) ∈ WA := inB_7 (List.mem_of_getElem? (i := 11) rfl)
set_option maxRecDepth 100000 in
theorem ml_235 : (.selects RX3 yX3_firstSlot yX3_firstSlot : Cond) ∈ lw_tbl ∧ (((.selects RX3 yX3_firstSlot yX3_firstSlot : Cond).onTables && (.selects RX3 yX3_firstSlot yX3_firstSlot : Cond).keeps) = true ∨ ∃ ty, (.selects RX3 yX3_firstSlot yX3_firstSlot : Cond) = .arrayClass ty) := ⟨in_p1 (q := (yX3_firstSlot, 16)) (List.mem_of_getElem? (i := 10) rfl), Or.inl rfl⟩
set_option maxRecDepth 100000 in
theorem mw_236 : (.code yX10_peek cX10_peek 2 (some .int) : Cond) ∈ WA := inB_7 (List.mem_of_getElem? (i := 12) rfl)
set_option maxRecDepth 100000 in
theorem ml_236 : (.code yX10_peek cX10_peek 2 (some .int) : Cond) ∈ lw_tbl ∧ (((.code yX10_peek cX10_peek 2 (some .int) : Cond).onTables && (.code yX10_peek cX10_peek 2 (some .int) : Cond).keeps) = true ∨ ∃ ty, (.code yX10_peek cX10_peek 2 (some .int) : Cond) = .arrayClass ty) := ⟨in_t3 (List.mem_of_getElem? (i := 11) rfl), Or.inl rfl⟩
set_option maxRecDepth 100000 in
theorem mw_237 : (.static yX10_peek : Cond) ∈ WA := inB_7 (List.mem_of_getElem? (i := 13) rfl)
set_option maxRecDepth 100000 in
theorem ml_237 : (.static yX10_peek : Cond) ∈ lw_tbl ∧ (((.static yX10_peek : Cond).onTables && (.static yX10_peek : Cond).keeps) = true ∨ ∃ ty, (.static yX10_peek : Cond) = .arrayClass ty) := ⟨in_t3 (List.mem_of_getElem? (i := 10) rfl), Or.inl rfl⟩
set_option maxRecDepth 100000 in
theorem mw_238 : (.fieldLink RX8 35 "ArrayHouse$Text" "count" "I" : Cond) ∈ WA := inB_7 (List.mem_of_getElem? (i := 14) rfl)
set_option maxRecDepth 100000 in
theorem ml_238 : (.fieldLink RX8 35 "ArrayHouse$Text" "count" "I" : Cond) ∈ lw_tbl ∧ (((.fieldLink RX8 35 "ArrayHouse$Text" "count" "I" : Cond).onTables && (.fieldLink RX8 35 "ArrayHouse$Text" "count" "I" : Cond).keeps) = true ∨ ∃ ty, (.fieldLink RX8 35 "ArrayHouse$Text" "count" "I" : Cond) = .arrayClass ty) := ⟨in_t1 (List.mem_of_getElem? (i := 125) rfl), Or.inl rfl⟩
set_option maxRecDepth 100000 in
theorem mw_239 : (.code yX8_unmake cX8_unmake 4 none : Cond) ∈ WA := inB_7 (List.mem_of_getElem? (i := 15) rfl)
set_option maxRecDepth 100000 in
theorem ml_239 : (.code yX8_unmake cX8_unmake 4 none : Cond) ∈ lw_tbl ∧ (((.code yX8_unmake cX8_unmake 4 none : Cond).onTables && (.code yX8_unmake cX8_unmake 4 none : Cond).keeps) = true ∨ ∃ ty, (.code yX8_unmake cX8_unmake 4 none : Cond) = .arrayClass ty) := ⟨in_t3 (List.mem_of_getElem? (i := 29) rfl), Or.inl rfl⟩
set_option maxRecDepth 100000 in
theorem mw_240 : (.instanceMethod yX8_unmake : Cond) ∈ WA := inB_7 (List.mem_of_getElem? (i := 16) rfl)
set_option maxRecDepth 100000 in
theorem ml_240 : (.instanceMethod yX8_unmake : Cond) ∈ lw_tbl ∧ (((.instanceMethod yX8_unmake : Cond).onTables && (.instanceMethod yX8_unmake : Cond).keeps) = true ∨ ∃ ty, (.instanceMethod yX8_unmake : Cond) = .arrayClass ty) := ⟨in_t3 (List.mem_of_getElem? (i := 28) rfl), Or.inl rfl⟩
set_option maxRecDepth 100000 in
theorem mw_241 : (.selects RX8 yX8_unmake yX8_unmake : Cond) ∈ WA := inB_7 (List.mem_of_getElem? (i := 17) rfl)
set_option maxRecDepth 100000 in
theorem ml_241 : (.selects RX8 yX8_unmake yX8_unmake : Cond) ∈ lw_tbl ∧ (((.selects RX8 yX8_unmake yX8_unmake : Cond).onTables && (.selects RX8 yX8_unmake yX8_unmake : Cond).keeps) = true ∨ ∃ ty, (.selects RX8 yX8_unmake yX8_unmake : Cond) = .arrayClass ty) := ⟨in_p1 (q := (yX8_unmake, 8)) (List.mem_of_getElem? (i := 12) rfl), Or.inl rfl⟩
set_option maxRecDepth 100000 in
theorem mw_242 : (.methodLink RX1 185 arraycopyName : Cond) ∈ WA := inB_7 (List.mem_of_getElem? (i := 18) rfl)
set_option maxRecDepth 100000 in
theorem ml_242 : (.methodLink RX1 185 arraycopyName : Cond) ∈ lw_tbl ∧ (((.methodLink RX1 185 arraycopyName : Cond).onTables && (.methodLink RX1 185 arraycopyName : Cond).keeps) = true ∨ ∃ ty, (.methodLink RX1 185 arraycopyName : Cond) = .arrayClass ty) := ⟨in_t3 (List.mem_of_getElem? (i := 4) rfl), Or.inl rfl⟩
set_option maxRecDepth 100000 in
theorem mw_243 : (.native arraycopyName : Cond) ∈ WA := inB_7 (List.mem_of_getElem? (i := 19) rfl)
set_option maxRecDepth 100000 in
theorem ml_243 : (.native arraycopyName : Cond) ∈ lw_tbl ∧ (((.native arraycopyName : Cond).onTables && (.native arraycopyName : Cond).keeps) = true ∨ ∃ ty, (.native arraycopyName : Cond) = .arrayClass ty) := ⟨in_t3 (List.mem_of_getElem? (i := 3) rfl), Or.inl rfl⟩
set_option maxRecDepth 100000 in
theorem mw_244 : (.static arraycopyName : Cond) ∈ WA := inB_7 (List.mem_of_getElem? (i := 20) rfl)
set_option maxRecDepth 100000 in
theorem ml_244 : (.static arraycopyName : Cond) ∈ lw_tbl ∧ (((.static arraycopyName : Cond).onTables && (.static arraycopyName : Cond).keeps) = true ∨ ∃ ty, (.static arraycopyName : Cond) = .arrayClass ty) := ⟨in_t3 (List.mem_of_getElem? (i := 2) rfl), Or.inl rfl⟩
set_option maxRecDepth 100000 in
theorem mw_245 : (.initialized "java/lang/System" : Cond) ∈ WA := inB_7 (List.mem_of_getElem? (i := 21) rfl)
set_option maxRecDepth 100000 in
theorem ml_245 : (.initialized "java/lang/System" : Cond) ∈ lw_tbl ∧ (((.initialized "java/lang/System" : Cond).onTables && (.initialized "java/lang/System" : Cond).keeps) = true ∨ ∃ ty, (.initialized "java/lang/System" : Cond) = .arrayClass ty) := ⟨in_t1 (List.mem_of_getElem? (i := 15) rfl), Or.inl rfl⟩
set_option maxRecDepth 100000 in
theorem mw_246 : (.code yX1_settle cX1_settle 1 none : Cond) ∈ WA := inB_7 (List.mem_of_getElem? (i := 22) rfl)
set_option maxRecDepth 100000 in
theorem ml_246 : (.code yX1_settle cX1_settle 1 none : Cond) ∈ lw_tbl ∧ (((.code yX1_settle cX1_settle 1 none : Cond).onTables && (.code yX1_settle cX1_settle 1 none : Cond).keeps) = true ∨ ∃ ty, (.code yX1_settle cX1_settle 1 none : Cond) = .arrayClass ty) := ⟨in_t3 (List.mem_of_getElem? (i := 42) rfl), Or.inl rfl⟩
set_option maxRecDepth 100000 in
theorem mw_247 : (.instanceMethod yX1_settle : Cond) ∈ WA := inB_7 (List.mem_of_getElem? (i := 23) rfl)
set_option maxRecDepth 100000 in
theorem ml_247 : (.instanceMethod yX1_settle : Cond) ∈ lw_tbl ∧ (((.instanceMethod yX1_settle : Cond).onTables && (.instanceMethod yX1_settle : Cond).keeps) = true ∨ ∃ ty, (.instanceMethod yX1_settle : Cond) = .arrayClass ty) := ⟨in_t3 (List.mem_of_getElem? (i := 41) rfl), Or.inl rfl⟩
set_option maxRecDepth 100000 in
theorem mw_248 : (.selects RX1 yX1_settle yX1_settle : Cond) ∈ WA := inB_7 (List.mem_of_getElem? (i := 24) rfl)
set_option maxRecDepth 100000 in
theorem ml_248 : (.selects RX1 yX1_settle yX1_settle : Cond) ∈ lw_tbl ∧ (((.selects RX1 yX1_settle yX1_settle : Cond).onTables && (.selects RX1 yX1_settle yX1_settle : Cond).keeps) = true ∨ ∃ ty, (.selects RX1 yX1_settle yX1_settle : Cond) = .arrayClass ty) := ⟨in_p1 (q := (yX1_settle, 9)) (List.mem_of_getElem? (i := 15) rfl), Or.inl rfl⟩
set_option maxRecDepth 100000 in
theorem mw_249 : (.code yX3_pack cX3_pack 8 (some .int) : Cond) ∈ WA := inB_7 (List.mem_of_getElem? (i := 25) rfl)
set_option maxRecDepth 100000 in
theorem ml_249 : (.code yX3_pack cX3_pack 8 (some .int) : Cond) ∈ lw_tbl ∧ (((.code yX3_pack cX3_pack 8 (some .int) : Cond).onTables && (.code yX3_pack cX3_pack 8 (some .int) : Cond).keeps) = true ∨ ∃ ty, (.code yX3_pack cX3_pack 8 (some .int) : Cond) = .arrayClass ty) := ⟨in_t2 (List.mem_of_getElem? (i := 206) rfl), Or.inl rfl⟩
set_option maxRecDepth 100000 in
theorem mw_250 : (.instanceMethod yX3_pack : Cond) ∈ WA := inB_7 (List.mem_of_getElem? (i := 26) rfl)
set_option maxRecDepth 100000 in
theorem ml_250 : (.instanceMethod yX3_pack : Cond) ∈ lw_tbl ∧ (((.instanceMethod yX3_pack : Cond).onTables && (.instanceMethod yX3_pack : Cond).keeps) = true ∨ ∃ ty, (.instanceMethod yX3_pack : Cond) = .arrayClass ty) := ⟨in_t2 (List.mem_of_getElem? (i := 205) rfl), Or.inl rfl⟩
set_option maxRecDepth 100000 in
theorem mw_251 : (.selects RX3 yX3_pack yX3_pack : Cond) ∈ WA := inB_7 (List.mem_of_getElem? (i := 27) rfl)
set_option maxRecDepth 100000 in
theorem ml_251 : (.selects RX3 yX3_pack yX3_pack : Cond) ∈ lw_tbl ∧ (((.selects RX3 yX3_pack yX3_pack : Cond).onTables && (.selects RX3 yX3_pack yX3_pack : Cond).keeps) = true ∨ ∃ ty, (.selects RX3 yX3_pack yX3_pack : Cond) = .arrayClass ty) := ⟨in_p1 (q := (yX3_pack, 16)) (List.mem_of_getElem? (i := 3) rfl), Or.inl rfl⟩
set_option maxRecDepth 100000 in
theorem mw_252 : (.code yX3_meansAt cX3_meansAt 2 (some .int) : Cond) ∈ WA := inB_7 (List.mem_of_getElem? (i := 28) rfl)
set_option maxRecDepth 100000 in
theorem ml_252 : (.code yX3_meansAt cX3_meansAt 2 (some .int) : Cond) ∈ lw_tbl ∧ (((.code yX3_meansAt cX3_meansAt 2 (some .int) : Cond).onTables && (.code yX3_meansAt cX3_meansAt 2 (some .int) : Cond).keeps) = true ∨ ∃ ty, (.code yX3_meansAt cX3_meansAt 2 (some .int) : Cond) = .arrayClass ty) := ⟨in_t3 (List.mem_of_getElem? (i := 24) rfl), Or.inl rfl⟩
set_option maxRecDepth 100000 in
theorem mw_253 : (.instanceMethod yX3_meansAt : Cond) ∈ WA := inB_7 (List.mem_of_getElem? (i := 29) rfl)
set_option maxRecDepth 100000 in
theorem ml_253 : (.instanceMethod yX3_meansAt : Cond) ∈ lw_tbl ∧ (((.instanceMethod yX3_meansAt : Cond).onTables && (.instanceMethod yX3_meansAt : Cond).keeps) = true ∨ ∃ ty, (.instanceMethod yX3_meansAt : Cond) = .arrayClass ty) := ⟨in_t3 (List.mem_of_getElem? (i := 23) rfl), Or.inl rfl⟩
set_option maxRecDepth 100000 in
theorem mw_254 : (.selects RX3 yX3_meansAt yX3_meansAt : Cond) ∈ WA := inB_7 (List.mem_of_getElem? (i := 30) rfl)
set_option maxRecDepth 100000 in
theorem ml_254 : (.selects RX3 yX3_meansAt yX3_meansAt : Cond) ∈ lw_tbl ∧ (((.selects RX3 yX3_meansAt yX3_meansAt : Cond).onTables && (.selects RX3 yX3_meansAt yX3_meansAt : Cond).keeps) = true ∨ ∃ ty, (.selects RX3 yX3_meansAt yX3_meansAt : Cond) = .arrayClass ty) := ⟨in_p1 (q := (yX3_meansAt, 16)) (List.mem_of_getElem? (i := 11) rfl), Or.inl rfl⟩
set_option maxRecDepth 100000 in
theorem mw_255 : (.code yX10_keepHouse cX10_keepHouse 4 none : Cond) ∈ WA := inB_7 (List.mem_of_getElem? (i := 31) rfl)
set_option maxRecDepth 100000 in
theorem ml_255 : (.code yX10_keepHouse cX10_keepHouse 4 none : Cond) ∈ lw_tbl ∧ (((.code yX10_keepHouse cX10_keepHouse 4 none : Cond).onTables && (.code yX10_keepHouse cX10_keepHouse 4 none : Cond).keeps) = true ∨ ∃ ty, (.code yX10_keepHouse cX10_keepHouse 4 none : Cond) = .arrayClass ty) := ⟨in_t2 (List.mem_of_getElem? (i := 202) rfl), Or.inl rfl⟩
set_option maxRecDepth 100000 in
theorem mw_256 : (.methodLink RX10 98 yX10_keepHouse : Cond) ∈ WA := inB_8 (List.mem_of_getElem? (i := 0) rfl)
set_option maxRecDepth 100000 in
theorem ml_256 : (.methodLink RX10 98 yX10_keepHouse : Cond) ∈ lw_tbl ∧ (((.methodLink RX10 98 yX10_keepHouse : Cond).onTables && (.methodLink RX10 98 yX10_keepHouse : Cond).keeps) = true ∨ ∃ ty, (.methodLink RX10 98 yX10_keepHouse : Cond) = .arrayClass ty) := ⟨in_t2 (List.mem_of_getElem? (i := 199) rfl), Or.inl rfl⟩
set_option maxRecDepth 100000 in
theorem mw_257 : (.instanceMethod yX10_keepHouse : Cond) ∈ WA := inB_8 (List.mem_of_getElem? (i := 1) rfl)
set_option maxRecDepth 100000 in
theorem ml_257 : (.instanceMethod yX10_keepHouse : Cond) ∈ lw_tbl ∧ (((.instanceMethod yX10_keepHouse : Cond).onTables && (.instanceMethod yX10_keepHouse : Cond).keeps) = true ∨ ∃ ty, (.instanceMethod yX10_keepHouse : Cond) = .arrayClass ty) := ⟨in_t2 (List.mem_of_getElem? (i := 201) rfl), Or.inl rfl⟩
set_option maxRecDepth 100000 in
theorem mw_258 : (.selects RX10 yX10_keepHouse yX10_keepHouse : Cond) ∈ WA := inB_8 (List.mem_of_getElem? (i := 2) rfl)
set_option maxRecDepth 100000 in
theorem ml_258 : (.selects RX10 yX10_keepHouse yX10_keepHouse : Cond) ∈ lw_tbl ∧ (((.selects RX10 yX10_keepHouse yX10_keepHouse : Cond).onTables && (.selects RX10 yX10_keepHouse yX10_keepHouse : Cond).keeps) = true ∨ ∃ ty, (.selects RX10 yX10_keepHouse yX10_keepHouse : Cond) = .arrayClass ty) := ⟨in_p1 (q := (yX10_keepHouse, 11)) (List.mem_of_getElem? (i := 2) rfl), Or.inl rfl⟩
set_option maxRecDepth 100000 in
theorem mw_259 : (.fieldLink RX8 49 "ArrayHouse$Text" "innermost" "I" : Cond) ∈ WA := inB_8 (List.mem_of_getElem? (i := 3) rfl)
set_option maxRecDepth 100000 in
theorem ml_259 : (.fieldLink RX8 49 "ArrayHouse$Text" "innermost" "I" : Cond) ∈ lw_tbl ∧ (((.fieldLink RX8 49 "ArrayHouse$Text" "innermost" "I" : Cond).onTables && (.fieldLink RX8 49 "ArrayHouse$Text" "innermost" "I" : Cond).keeps) = true ∨ ∃ ty, (.fieldLink RX8 49 "ArrayHouse$Text" "innermost" "I" : Cond) = .arrayClass ty) := ⟨in_t1 (List.mem_of_getElem? (i := 130) rfl), Or.inl rfl⟩
set_option maxRecDepth 100000 in
theorem mw_260 : (.fieldLink RX8 26 "ArrayHouse$Text" "length" "I" : Cond) ∈ WA := inB_8 (List.mem_of_getElem? (i := 4) rfl)
set_option maxRecDepth 100000 in
theorem ml_260 : (.fieldLink RX8 26 "ArrayHouse$Text" "length" "I" : Cond) ∈ lw_tbl ∧ (((.fieldLink RX8 26 "ArrayHouse$Text" "length" "I" : Cond).onTables && (.fieldLink RX8 26 "ArrayHouse$Text" "length" "I" : Cond).keeps) = true ∨ ∃ ty, (.fieldLink RX8 26 "ArrayHouse$Text" "length" "I" : Cond) = .arrayClass ty) := ⟨in_t1 (List.mem_of_getElem? (i := 122) rfl), Or.inl rfl⟩
set_option maxRecDepth 100000 in
theorem mw_261 : (.code yX8_scan cX8_scan 5 (some .int) : Cond) ∈ WA := inB_8 (List.mem_of_getElem? (i := 5) rfl)
set_option maxRecDepth 100000 in
theorem ml_261 : (.code yX8_scan cX8_scan 5 (some .int) : Cond) ∈ lw_tbl ∧ (((.code yX8_scan cX8_scan 5 (some .int) : Cond).onTables && (.code yX8_scan cX8_scan 5 (some .int) : Cond).keeps) = true ∨ ∃ ty, (.code yX8_scan cX8_scan 5 (some .int) : Cond) = .arrayClass ty) := ⟨in_t3 (List.mem_of_getElem? (i := 77) rfl), Or.inl rfl⟩
set_option maxRecDepth 100000 in
theorem mw_262 : (.instanceMethod yX8_scan : Cond) ∈ WA := inB_8 (List.mem_of_getElem? (i := 6) rfl)
set_option maxRecDepth 100000 in
theorem ml_262 : (.instanceMethod yX8_scan : Cond) ∈ lw_tbl ∧ (((.instanceMethod yX8_scan : Cond).onTables && (.instanceMethod yX8_scan : Cond).keeps) = true ∨ ∃ ty, (.instanceMethod yX8_scan : Cond) = .arrayClass ty) := ⟨in_t3 (List.mem_of_getElem? (i := 76) rfl), Or.inl rfl⟩
set_option maxRecDepth 100000 in
theorem mw_263 : (.selects RX8 yX8_scan yX8_scan : Cond) ∈ WA := inB_8 (List.mem_of_getElem? (i := 7) rfl)
set_option maxRecDepth 100000 in
theorem ml_263 : (.selects RX8 yX8_scan yX8_scan : Cond) ∈ lw_tbl ∧ (((.selects RX8 yX8_scan yX8_scan : Cond).onTables && (.selects RX8 yX8_scan yX8_scan : Cond).keeps) = true ∨ ∃ ty, (.selects RX8 yX8_scan yX8_scan : Cond) = .arrayClass ty) := ⟨in_p2 (q := (yX8_scan, 8)) (List.mem_of_getElem? (i := 5) rfl), Or.inl rfl⟩
set_option maxRecDepth 100000 in
theorem mw_264 : (.code yX8_firstOf cX8_firstOf 7 (some .int) : Cond) ∈ WA := inB_8 (List.mem_of_getElem? (i := 8) rfl)
set_option maxRecDepth 100000 in
theorem ml_264 : (.code yX8_firstOf cX8_firstOf 7 (some .int) : Cond) ∈ lw_tbl ∧ (((.code yX8_firstOf cX8_firstOf 7 (some .int) : Cond).onTables && (.code yX8_firstOf cX8_firstOf 7 (some .int) : Cond).keeps) = true ∨ ∃ ty, (.code yX8_firstOf cX8_firstOf 7 (some .int) : Cond) = .arrayClass ty) := ⟨in_t4 (List.mem_of_getElem? (i := 36) rfl), Or.inl rfl⟩
set_option maxRecDepth 100000 in
theorem mw_265 : (.methodLink RX8 151 yX8_firstOf : Cond) ∈ WA := inB_8 (List.mem_of_getElem? (i := 9) rfl)
set_option maxRecDepth 100000 in
theorem ml_265 : (.methodLink RX8 151 yX8_firstOf : Cond) ∈ lw_tbl ∧ (((.methodLink RX8 151 yX8_firstOf : Cond).onTables && (.methodLink RX8 151 yX8_firstOf : Cond).keeps) = true ∨ ∃ ty, (.methodLink RX8 151 yX8_firstOf : Cond) = .arrayClass ty) := ⟨in_t4 (List.mem_of_getElem? (i := 33) rfl), Or.inl rfl⟩
set_option maxRecDepth 100000 in
theorem mw_266 : (.instanceMethod yX8_firstOf : Cond) ∈ WA := inB_8 (List.mem_of_getElem? (i := 10) rfl)
set_option maxRecDepth 100000 in
theorem ml_266 : (.instanceMethod yX8_firstOf : Cond) ∈ lw_tbl ∧ (((.instanceMethod yX8_firstOf : Cond).onTables && (.instanceMethod yX8_firstOf : Cond).keeps) = true ∨ ∃ ty, (.instanceMethod yX8_firstOf : Cond) = .arrayClass ty) := ⟨in_t4 (List.mem_of_getElem? (i := 35) rfl), Or.inl rfl⟩
set_option maxRecDepth 100000 in
theorem mw_267 : (.selects RX8 yX8_firstOf yX8_firstOf : Cond) ∈ WA := inB_8 (List.mem_of_getElem? (i := 11) rfl)
set_option maxRecDepth 100000 in
theorem ml_267 : (.selects RX8 yX8_firstOf yX8_firstOf : Cond) ∈ lw_tbl ∧ (((.selects RX8 yX8_firstOf yX8_firstOf : Cond).onTables && (.selects RX8 yX8_firstOf yX8_firstOf : Cond).keeps) = true ∨ ∃ ty, (.selects RX8 yX8_firstOf yX8_firstOf : Cond) = .arrayClass ty) := ⟨in_p3 (q := (yX8_firstOf, 8)) (List.mem_of_getElem? (i := 6) rfl), Or.inl rfl⟩
set_option maxRecDepth 100000 in
theorem mw_268 : (.code yX8_statementEnd cX8_statementEnd 3 (some .int) : Cond) ∈ WA := inB_8 (List.mem_of_getElem? (i := 12) rfl)
set_option maxRecDepth 100000 in
theorem ml_268 : (.code yX8_statementEnd cX8_statementEnd 3 (some .int) : Cond) ∈ lw_tbl ∧ (((.code yX8_statementEnd cX8_statementEnd 3 (some .int) : Cond).onTables && (.code yX8_statementEnd cX8_statementEnd 3 (some .int) : Cond).keeps) = true ∨ ∃ ty, (.code yX8_statementEnd cX8_statementEnd 3 (some .int) : Cond) = .arrayClass ty) := ⟨in_t4 (List.mem_of_getElem? (i := 32) rfl), Or.inl rfl⟩
set_option maxRecDepth 100000 in
theorem mw_269 : (.instanceMethod yX8_statementEnd : Cond) ∈ WA := inB_8 (List.mem_of_getElem? (i := 13) rfl)
set_option maxRecDepth 100000 in
theorem ml_269 : (.instanceMethod yX8_statementEnd : Cond) ∈ lw_tbl ∧ (((.instanceMethod yX8_statementEnd : Cond).onTables && (.instanceMethod yX8_statementEnd : Cond).keeps) = true ∨ ∃ ty, (.instanceMethod yX8_statementEnd : Cond) = .arrayClass ty) := ⟨in_t4 (List.mem_of_getElem? (i := 31) rfl), Or.inl rfl⟩
set_option maxRecDepth 100000 in
theorem mw_270 : (.selects RX8 yX8_statementEnd yX8_statementEnd : Cond) ∈ WA := inB_8 (List.mem_of_getElem? (i := 14) rfl)
set_option maxRecDepth 100000 in
theorem ml_270 : (.selects RX8 yX8_statementEnd yX8_statementEnd : Cond) ∈ lw_tbl ∧ (((.selects RX8 yX8_statementEnd yX8_statementEnd : Cond).onTables && (.selects RX8 yX8_statementEnd yX8_statementEnd : Cond).keeps) = true ∨ ∃ ty, (.selects RX8 yX8_statementEnd yX8_statementEnd : Cond) = .arrayClass ty) := ⟨in_p3 (q := (yX8_statementEnd, 8)) (List.mem_of_getElem? (i := 5) rfl), Or.inl rfl⟩
set_option maxRecDepth 100000 in
theorem mw_271 : (.code yX1_size cX1_size 2 (some .int) : Cond) ∈ WA := inB_8 (List.mem_of_getElem? (i := 15) rfl)
set_option maxRecDepth 100000 in
theorem ml_271 : (.code yX1_size cX1_size 2 (some .int) : Cond) ∈ lw_tbl ∧ (((.code yX1_size cX1_size 2 (some .int) : Cond).onTables && (.code yX1_size cX1_size 2 (some .int) : Cond).keeps) = true ∨ ∃ ty, (.code yX1_size cX1_size 2 (some .int) : Cond) = .arrayClass ty) := ⟨in_t4 (List.mem_of_getElem? (i := 121) rfl), Or.inl rfl⟩
set_option maxRecDepth 100000 in
theorem mw_272 : (.instanceMethod yX1_size : Cond) ∈ WA := inB_8 (List.mem_of_getElem? (i := 16) rfl)
set_option maxRecDepth 100000 in
theorem ml_272 : (.instanceMethod yX1_size : Cond) ∈ lw_tbl ∧ (((.instanceMethod yX1_size : Cond).onTables && (.instanceMethod yX1_size : Cond).keeps) = true ∨ ∃ ty, (.instanceMethod yX1_size : Cond) = .arrayClass ty) := ⟨in_t4 (List.mem_of_getElem? (i := 120) rfl), Or.inl rfl⟩
set_option maxRecDepth 100000 in
theorem mw_273 : (.selects RX1 yX1_size yX1_size : Cond) ∈ WA := inB_8 (List.mem_of_getElem? (i := 17) rfl)
set_option maxRecDepth 100000 in
theorem ml_273 : (.selects RX1 yX1_size yX1_size : Cond) ∈ lw_tbl ∧ (((.selects RX1 yX1_size yX1_size : Cond).onTables && (.selects RX1 yX1_size yX1_size : Cond).keeps) = true ∨ ∃ ty, (.selects RX1 yX1_size yX1_size : Cond) = .arrayClass ty) := ⟨in_p4 (q := (yX1_size, 9)) (List.mem_of_getElem? (i := 7) rfl), Or.inl rfl⟩
set_option maxRecDepth 100000 in
theorem mw_274 : (.code yX3_keep cX3_keep 3 (some .int) : Cond) ∈ WA := inB_8 (List.mem_of_getElem? (i := 18) rfl)
set_option maxRecDepth 100000 in
theorem ml_274 : (.code yX3_keep cX3_keep 3 (some .int) : Cond) ∈ lw_tbl ∧ (((.code yX3_keep cX3_keep 3 (some .int) : Cond).onTables && (.code yX3_keep cX3_keep 3 (some .int) : Cond).keeps) = true ∨ ∃ ty, (.code yX3_keep cX3_keep 3 (some .int) : Cond) = .arrayClass ty) := ⟨in_t4 (List.mem_of_getElem? (i := 146) rfl), Or.inl rfl⟩
set_option maxRecDepth 100000 in
theorem mw_275 : (.instanceMethod yX3_keep : Cond) ∈ WA := inB_8 (List.mem_of_getElem? (i := 19) rfl)
set_option maxRecDepth 100000 in
theorem ml_275 : (.instanceMethod yX3_keep : Cond) ∈ lw_tbl ∧ (((.instanceMethod yX3_keep : Cond).onTables && (.instanceMethod yX3_keep : Cond).keeps) = true ∨ ∃ ty, (.instanceMethod yX3_keep : Cond) = .arrayClass ty) := ⟨in_t4 (List.mem_of_getElem? (i := 145) rfl), Or.inl rfl⟩
set_option maxRecDepth 100000 in
theorem mw_276 : (.selects RX3 yX3_keep yX3_keep : Cond) ∈ WA := inB_8 (List.mem_of_getElem? (i := 20) rfl)
set_option maxRecDepth 100000 in
theorem ml_276 : (.selects RX3 yX3_keep yX3_keep : Cond) ∈ lw_tbl ∧ (((.selects RX3 yX3_keep yX3_keep : Cond).onTables && (.selects RX3 yX3_keep yX3_keep : Cond).keeps) = true ∨ ∃ ty, (.selects RX3 yX3_keep yX3_keep : Cond) = .arrayClass ty) := ⟨in_p4 (q := (yX3_keep, 16)) (List.mem_of_getElem? (i := 13) rfl), Or.inl rfl⟩
set_option maxRecDepth 100000 in
theorem mw_277 : (.code yX10_statements cX10_statements 8 none : Cond) ∈ WA := inB_8 (List.mem_of_getElem? (i := 21) rfl)
set_option maxRecDepth 100000 in
theorem ml_277 : (.code yX10_statements cX10_statements 8 none : Cond) ∈ lw_tbl ∧ (((.code yX10_statements cX10_statements 8 none : Cond).onTables && (.code yX10_statements cX10_statements 8 none : Cond).keeps) = true ∨ ∃ ty, (.code yX10_statements cX10_statements 8 none : Cond) = .arrayClass ty) := ⟨in_t4 (List.mem_of_getElem? (i := 28) rfl), Or.inl rfl⟩
set_option maxRecDepth 100000 in
theorem mw_278 : (.methodLink RX10 112 yX10_statements : Cond) ∈ WA := inB_8 (List.mem_of_getElem? (i := 22) rfl)
set_option maxRecDepth 100000 in
theorem ml_278 : (.methodLink RX10 112 yX10_statements : Cond) ∈ lw_tbl ∧ (((.methodLink RX10 112 yX10_statements : Cond).onTables && (.methodLink RX10 112 yX10_statements : Cond).keeps) = true ∨ ∃ ty, (.methodLink RX10 112 yX10_statements : Cond) = .arrayClass ty) := ⟨in_t4 (List.mem_of_getElem? (i := 25) rfl), Or.inl rfl⟩
set_option maxRecDepth 100000 in
theorem mw_279 : (.instanceMethod yX10_statements : Cond) ∈ WA := inB_8 (List.mem_of_getElem? (i := 23) rfl)
set_option maxRecDepth 100000 in
theorem ml_279 : (.instanceMethod yX10_statements : Cond) ∈ lw_tbl ∧ (((.instanceMethod yX10_statements : Cond).onTables && (.instanceMethod yX10_statements : Cond).keeps) = true ∨ ∃ ty, (.instanceMethod yX10_statements : Cond) = .arrayClass ty) := ⟨in_t4 (List.mem_of_getElem? (i := 27) rfl), Or.inl rfl⟩
set_option maxRecDepth 100000 in
theorem mw_280 : (.selects RX10 yX10_statements yX10_statements : Cond) ∈ WA := inB_8 (List.mem_of_getElem? (i := 24) rfl)
set_option maxRecDepth 100000 in
theorem ml_280 : (.selects RX10 yX10_statements yX10_statements : Cond) ∈ lw_tbl ∧ (((.selects RX10 yX10_statements yX10_statements : Cond).onTables && (.selects RX10 yX10_statements yX10_statements : Cond).keeps) = true ∨ ∃ ty, (.selects RX10 yX10_statements yX10_statements : Cond) = .arrayClass ty) := ⟨in_p3 (q := (yX10_statements, 11)) (List.mem_of_getElem? (i := 4) rfl), Or.inl rfl⟩
set_option maxRecDepth 100000 in
theorem mw_281 : (.code yX10_run cX10_run 4 (some .int) : Cond) ∈ WA := inB_8 (List.mem_of_getElem? (i := 25) rfl)
set_option maxRecDepth 100000 in
theorem ml_281 : (.code yX10_run cX10_run 4 (some .int) : Cond) ∈ lw_tbl ∧ (((.code yX10_run cX10_run 4 (some .int) : Cond).onTables && (.code yX10_run cX10_run 4 (some .int) : Cond).keeps) = true ∨ ∃ ty, (.code yX10_run cX10_run 4 (some .int) : Cond) = .arrayClass ty) := ⟨in_t2 (List.mem_of_getElem? (i := 194) rfl), Or.inl rfl⟩
set_option maxRecDepth 100000 in
theorem mw_282 : (.methodLink RL 23 yX10_run : Cond) ∈ WA := inB_8 (List.mem_of_getElem? (i := 26) rfl)
set_option maxRecDepth 100000 in
theorem ml_282 : (.methodLink RL 23 yX10_run : Cond) ∈ lw_tbl ∧ (((.methodLink RL 23 yX10_run : Cond).onTables && (.methodLink RL 23 yX10_run : Cond).keeps) = true ∨ ∃ ty, (.methodLink RL 23 yX10_run : Cond) = .arrayClass ty) := ⟨in_t2 (List.mem_of_getElem? (i := 191) rfl), Or.inl rfl⟩
set_option maxRecDepth 100000 in
theorem mw_283 : (.instanceMethod yX10_run : Cond) ∈ WA := inB_8 (List.mem_of_getElem? (i := 27) rfl)
set_option maxRecDepth 100000 in
theorem ml_283 : (.instanceMethod yX10_run : Cond) ∈ lw_tbl ∧ (((.instanceMethod yX10_run : Cond).onTables && (.instanceMethod yX10_run : Cond).keeps) = true ∨ ∃ ty, (.instanceMethod yX10_run : Cond) = .arrayClass ty) := ⟨in_t2 (List.mem_of_getElem? (i := 192) rfl), Or.inl rfl⟩
set_option maxRecDepth 100000 in
theorem mw_284 : (.selects RX10 yX10_run yX10_run : Cond) ∈ WA := inB_8 (List.mem_of_getElem? (i := 28) rfl)
set_option maxRecDepth 100000 in
theorem ml_284 : (.selects RX10 yX10_run yX10_run : Cond) ∈ lw_tbl ∧ (((.selects RX10 yX10_run yX10_run : Cond).onTables && (.selects RX10 yX10_run yX10_run : Cond).keeps) = true ∨ ∃ ty, (.selects RX10 yX10_run yX10_run : Cond) = .arrayClass ty) := ⟨in_t2 (List.mem_of_getElem? (i := 193) rfl), Or.inl rfl⟩
set_option maxRecDepth 100000 in
theorem mw_285 : (.fieldLink RX11 1 "ArrayHouseModel" "event" "I" : Cond) ∈ WA := inB_8 (List.mem_of_getElem? (i := 29) rfl)
set_option maxRecDepth 100000 in
theorem ml_285 : (.fieldLink RX11 1 "ArrayHouseModel" "event" "I" : Cond) ∈ lw_tbl ∧ (((.fieldLink RX11 1 "ArrayHouseModel" "event" "I" : Cond).onTables && (.fieldLink RX11 1 "ArrayHouseModel" "event" "I" : Cond).keeps) = true ∨ ∃ ty, (.fieldLink RX11 1 "ArrayHouseModel" "event" "I" : Cond) = .arrayClass ty) := ⟨in_t8 (List.mem_of_getElem? (i := 147) rfl), Or.inl rfl⟩
set_option maxRecDepth 100000 in
theorem mw_286 : (.fieldLink RX11 7 "ArrayHouseModel" "steps" "I" : Cond) ∈ WA := inB_8 (List.mem_of_getElem? (i := 30) rfl)
set_option maxRecDepth 100000 in
theorem ml_286 : (.fieldLink RX11 7 "ArrayHouseModel" "steps" "I" : Cond) ∈ lw_tbl ∧ (((.fieldLink RX11 7 "ArrayHouseModel" "steps" "I" : Cond).onTables && (.fieldLink RX11 7 "ArrayHouseModel" "steps" "I" : Cond).keeps) = true ∨ ∃ ty, (.fieldLink RX11 7 "ArrayHouseModel" "steps" "I" : Cond) = .arrayClass ty) := ⟨in_t8 (List.mem_of_getElem? (i := 148) rfl), Or.inl rfl⟩
set_option maxRecDepth 100000 in
theorem mw_287 : (.fieldLink RX11 439 "ArrayHouseModel" "open" "I" : Cond) ∈ WA := inB_8 (List.mem_of_getElem? (i := 31) rfl)
set_option maxRecDepth 100000 in
theorem ml_287 : (.fieldLink RX11 439 "ArrayHouseModel" "open" "I" : Cond) ∈ lw_tbl ∧ (((.fieldLink RX11 439 "ArrayHouseModel" "open" "I" : Cond).onTables && (.fieldLink RX11 439 "ArrayHouseModel" "open" "I" : Cond).keeps) = true ∨ ∃ ty, (.fieldLink RX11 439 "ArrayHouseModel" "open" "I" : Cond) = .arrayClass ty) := ⟨in_t8 (List.mem_of_getElem? (i := 149) rfl), Or.inl rfl⟩
set_option maxRecDepth 100000 in
theorem mw_288 : (.fieldLink RX11 527 "ArrayHouseModel" "waits" "I" : Cond) ∈ WA := inB_9 (List.mem_of_getElem? (i := 0) rfl)
set_option maxRecDepth 100000 in
theorem ml_288 : (.fieldLink RX11 527 "ArrayHouseModel" "waits" "I" : Cond) ∈ lw_tbl ∧ (((.fieldLink RX11 527 "ArrayHouseModel" "waits" "I" : Cond).onTables && (.fieldLink RX11 527 "ArrayHouseModel" "waits" "I" : Cond).keeps) = true ∨ ∃ ty, (.fieldLink RX11 527 "ArrayHouseModel" "waits" "I" : Cond) = .arrayClass ty) := ⟨in_t8 (List.mem_of_getElem? (i := 169) rfl), Or.inl rfl⟩
set_option maxRecDepth 100000 in
theorem mw_289 : (.fieldLink RX11 873 "ArrayHouseModel" "guards" "I" : Cond) ∈ WA := inB_9 (List.mem_of_getElem? (i := 1) rfl)
set_option maxRecDepth 100000 in
theorem ml_289 : (.fieldLink RX11 873 "ArrayHouseModel" "guards" "I" : Cond) ∈ lw_tbl ∧ (((.fieldLink RX11 873 "ArrayHouseModel" "guards" "I" : Cond).onTables && (.fieldLink RX11 873 "ArrayHouseModel" "guards" "I" : Cond).keeps) = true ∨ ∃ ty, (.fieldLink RX11 873 "ArrayHouseModel" "guards" "I" : Cond) = .arrayClass ty) := ⟨in_t8 (List.mem_of_getElem? (i := 213) rfl), Or.inl rfl⟩
set_option maxRecDepth 100000 in
theorem mw_290 : (.fieldLink RX11 798 "ArrayHouseModel" "choosing" "I" : Cond) ∈ WA := inB_9 (List.mem_of_getElem? (i := 2) rfl)
set_option maxRecDepth 100000 in
theorem ml_290 : (.fieldLink RX11 798 "ArrayHouseModel" "choosing" "I" : Cond) ∈ lw_tbl ∧ (((.fieldLink RX11 798 "ArrayHouseModel" "choosing" "I" : Cond).onTables && (.fieldLink RX11 798 "ArrayHouseModel" "choosing" "I" : Cond).keeps) = true ∨ ∃ ty, (.fieldLink RX11 798 "ArrayHouseModel" "choosing" "I" : Cond) = .arrayClass ty) := ⟨in_t8 (List.mem_of_getElem? (i := 210) rfl), Or.inl rfl⟩
set_option maxRecDepth 100000 in
theorem mw_291 : (.fieldLink RX11 562 "ArrayHouseModel" "tokens" "I" : Cond) ∈ WA := inB_9 (List.mem_of_getElem? (i := 3) rfl)
set_option maxRecDepth 100000 in
theorem ml_291 : (.fieldLink RX11 562 "ArrayHouseModel" "tokens" "I" : Cond) ∈ lw_tbl ∧ (((.fieldLink RX11 562 "ArrayHouseModel" "tokens" "I" : Cond).onTables && (.fieldLink RX11 562 "ArrayHouseModel" "tokens" "I" : Cond).keeps) = true ∨ ∃ ty, (.fieldLink RX11 562 "ArrayHouseModel" "tokens" "I" : Cond) = .arrayClass ty) := ⟨in_t8 (List.mem_of_getElem? (i := 179) rfl), Or.inl rfl⟩
set_option maxRecDepth 100000 in
theorem mw_292 : (.fieldLink RX11 330 "ArrayHouseModel" "saidMany" "I" : Cond) ∈ WA := inB_9 (List.mem_of_getElem? (i := 4) rfl)
set_option maxRecDepth 100000 in
theorem ml_292 : (.fieldLink RX11 330 "ArrayHouseModel" "saidMany" "I" : Cond) ∈ lw_tbl ∧ (((.fieldLink RX11 330 "ArrayHouseModel" "saidMany" "I" : Cond).onTables && (.fieldLink RX11 330 "ArrayHouseModel" "saidMany" "I" : Cond).keeps) = true ∨ ∃ ty, (.fieldLink RX11 330 "ArrayHouseModel" "saidMany" "I" : Cond) = .arrayClass ty) := ⟨in_t8 (List.mem_of_getElem? (i := 164) rfl), Or.inl rfl⟩
set_option maxRecDepth 100000 in
theorem mw_293 : (.fieldLink RX11 925 "ArrayHouseModel" "views" "I" : Cond) ∈ WA := inB_9 (List.mem_of_getElem? (i := 5) rfl)
set_option maxRecDepth 100000 in
theorem ml_293 : (.fieldLink RX11 925 "ArrayHouseModel" "views" "I" : Cond) ∈ lw_tbl ∧ (((.fieldLink RX11 925 "ArrayHouseModel" "views" "I" : Cond).onTables && (.fieldLink RX11 925 "ArrayHouseModel" "views" "I" : Cond).keeps) = true ∨ ∃ ty, (.fieldLink RX11 925 "ArrayHouseModel" "views" "I" : Cond) = .arrayClass ty) := ⟨in_t8 (List.mem_of_getElem? (i := 221) rfl), Or.inl rfl⟩
set_option maxRecDepth 100000 in
theorem mw_294 : (.fieldLink RX11 695 "ArrayHouseModel" "byteTop" "I" : Cond) ∈ WA := inB_9 (List.mem_of_getElem? (i := 6) rfl)
set_option maxRecDepth 100000 in
theorem ml_294 : (.fieldLink RX11 695 "ArrayHouseModel" "byteTop" "I" : Cond) ∈ lw_tbl ∧ (((.fieldLink RX11 695 "ArrayHouseModel" "byteTop" "I" : Cond).onTables && (.fieldLink RX11 695 "ArrayHouseModel" "byteTop" "I" : Cond).keeps) = true ∨ ∃ ty, (.fieldLink RX11 695 "ArrayHouseModel" "byteTop" "I" : Cond) = .arrayClass ty) := ⟨in_t8 (List.mem_of_getElem? (i := 171) rfl), Or.inl rfl⟩
set_option maxRecDepth 100000 in
theorem mw_295 : (.fieldLink RX11 577 "ArrayHouseModel" "at" "I" : Cond) ∈ WA := inB_9 (List.mem_of_getElem? (i := 7) rfl)
set_option maxRecDepth 100000 in
theorem ml_295 : (.fieldLink RX11 577 "ArrayHouseModel" "at" "I" : Cond) ∈ lw_tbl ∧ (((.fieldLink RX11 577 "ArrayHouseModel" "at" "I" : Cond).onTables && (.fieldLink RX11 577 "ArrayHouseModel" "at" "I" : Cond).keeps) = true ∨ ∃ ty, (.fieldLink RX11 577 "ArrayHouseModel" "at" "I" : Cond) = .arrayClass ty) := ⟨in_t8 (List.mem_of_getElem? (i := 181) rfl), Or.inl rfl⟩
set_option maxRecDepth 100000 in
theorem mw_296 : (.fieldLink RX11 553 "ArrayHouseModel" "end" "I" : Cond) ∈ WA := inB_9 (List.mem_of_getElem? (i := 8) rfl)
set_option maxRecDepth 100000 in
theorem ml_296 : (.fieldLink RX11 553 "ArrayHouseModel" "end" "I" : Cond) ∈ lw_tbl ∧ (((.fieldLink RX11 553 "ArrayHouseModel" "end" "I" : Cond).onTables && (.fieldLink RX11 553 "ArrayHouseModel" "end" "I" : Cond).keeps) = true ∨ ∃ ty, (.fieldLink RX11 553 "ArrayHouseModel" "end" "I" : Cond) = .arrayClass ty) := ⟨in_t8 (List.mem_of_getElem? (i := 182) rfl), Or.inl rfl⟩
set_option maxRecDepth 100000 in
theorem mw_297 : (.fieldLink RX11 586 "ArrayHouseModel" "fault" "I" : Cond) ∈ WA := inB_9 (List.mem_of_getElem? (i := 9) rfl)
set_option maxRecDepth 100000 in
theorem ml_297 : (.fieldLink RX11 586 "ArrayHouseModel" "fault" "I" : Cond) ∈ lw_tbl ∧ (((.fieldLink RX11 586 "ArrayHouseModel" "fault" "I" : Cond).onTables && (.fieldLink RX11 586 "ArrayHouseModel" "fault" "I" : Cond).keeps) = true ∨ ∃ ty, (.fieldLink RX11 586 "ArrayHouseModel" "fault" "I" : Cond) = .arrayClass ty) := ⟨in_t8 (List.mem_of_getElem? (i := 180) rfl), Or.inl rfl⟩
set_option maxRecDepth 100000 in
theorem mw_298 : (.code yX11_byteOf cX11_byteOf 2 (some .int) : Cond) ∈ WA := inB_9 (List.mem_of_getElem? (i := 10) rfl)
set_option maxRecDepth 100000 in
theorem ml_298 : (.code yX11_byteOf cX11_byteOf 2 (some .int) : Cond) ∈ lw_tbl ∧ (((.code yX11_byteOf cX11_byteOf 2 (some .int) : Cond).onTables && (.code yX11_byteOf cX11_byteOf 2 (some .int) : Cond).keeps) = true ∨ ∃ ty, (.code yX11_byteOf cX11_byteOf 2 (some .int) : Cond) = .arrayClass ty) := ⟨in_t9 (List.mem_of_getElem? (i := 155) rfl), Or.inl rfl⟩
set_option maxRecDepth 100000 in
theorem mw_299 : (.methodLink RX11 589 yX11_byteOf : Cond) ∈ WA := inB_9 (List.mem_of_getElem? (i := 11) rfl)
set_option maxRecDepth 100000 in
theorem ml_299 : (.methodLink RX11 589 yX11_byteOf : Cond) ∈ lw_tbl ∧ (((.methodLink RX11 589 yX11_byteOf : Cond).onTables && (.methodLink RX11 589 yX11_byteOf : Cond).keeps) = true ∨ ∃ ty, (.methodLink RX11 589 yX11_byteOf : Cond) = .arrayClass ty) := ⟨in_t9 (List.mem_of_getElem? (i := 152) rfl), Or.inl rfl⟩
set_option maxRecDepth 100000 in
theorem mw_300 : (.instanceMethod yX11_byteOf : Cond) ∈ WA := inB_9 (List.mem_of_getElem? (i := 12) rfl)
set_option maxRecDepth 100000 in
theorem ml_300 : (.instanceMethod yX11_byteOf : Cond) ∈ lw_tbl ∧ (((.instanceMethod yX11_byteOf : Cond).onTables && (.instanceMethod yX11_byteOf : Cond).keeps) = true ∨ ∃ ty, (.instanceMethod yX11_byteOf : Cond) = .arrayClass ty) := ⟨in_t9 (List.mem_of_getElem? (i := 154) rfl), Or.inl rfl⟩
set_option maxRecDepth 100000 in
theorem mw_301 : (.selects RX11 yX11_byteOf yX11_byteOf : Cond) ∈ WA := inB_9 (List.mem_of_getElem? (i := 13) rfl)
set_option maxRecDepth 100000 in
theorem ml_301 : (.selects RX11 yX11_byteOf yX11_byteOf : Cond) ∈ lw_tbl ∧ (((.selects RX11 yX11_byteOf yX11_byteOf : Cond).onTables && (.selects RX11 yX11_byteOf yX11_byteOf : Cond).keeps) = true ∨ ∃ ty, (.selects RX11 yX11_byteOf yX11_byteOf : Cond) = .arrayClass ty) := ⟨in_p15 (q := (yX11_byteOf, 76)) (List.mem_of_getElem? (i := 12) rfl), Or.inl rfl⟩
set_option maxRecDepth 100000 in
theorem mw_302 : (.code yX11_scan cX11_scan 7 (some .int) : Cond) ∈ WA := inB_9 (List.mem_of_getElem? (i := 14) rfl)
set_option maxRecDepth 100000 in
theorem ml_302 : (.code yX11_scan cX11_scan 7 (some .int) : Cond) ∈ lw_tbl ∧ (((.code yX11_scan cX11_scan 7 (some .int) : Cond).onTables && (.code yX11_scan cX11_scan 7 (some .int) : Cond).keeps) = true ∨ ∃ ty, (.code yX11_scan cX11_scan 7 (some .int) : Cond) = .arrayClass ty) := ⟨in_t9 (List.mem_of_getElem? (i := 151) rfl), Or.inl rfl⟩
set_option maxRecDepth 100000 in
theorem mw_303 : (.methodLink RX11 698 yX11_scan : Cond) ∈ WA := inB_9 (List.mem_of_getElem? (i := 15) rfl)
set_option maxRecDepth 100000 in
theorem ml_303 : (.methodLink RX11 698 yX11_scan : Cond) ∈ lw_tbl ∧ (((.methodLink RX11 698 yX11_scan : Cond).onTables && (.methodLink RX11 698 yX11_scan : Cond).keeps) = true ∨ ∃ ty, (.methodLink RX11 698 yX11_scan : Cond) = .arrayClass ty) := ⟨in_t9 (List.mem_of_getElem? (i := 148) rfl), Or.inl rfl⟩
set_option maxRecDepth 100000 in
theorem mw_304 : (.instanceMethod yX11_scan : Cond) ∈ WA := inB_9 (List.mem_of_getElem? (i := 16) rfl)
set_option maxRecDepth 100000 in
theorem ml_304 : (.instanceMethod yX11_scan : Cond) ∈ lw_tbl ∧ (((.instanceMethod yX11_scan : Cond).onTables && (.instanceMethod yX11_scan : Cond).keeps) = true ∨ ∃ ty, (.instanceMethod yX11_scan : Cond) = .arrayClass ty) := ⟨in_t9 (List.mem_of_getElem? (i := 150) rfl), Or.inl rfl⟩
set_option maxRecDepth 100000 in
theorem mw_305 : (.selects RX11 yX11_scan yX11_scan : Cond) ∈ WA := inB_9 (List.mem_of_getElem? (i := 17) rfl)
set_option maxRecDepth 100000 in
theorem ml_305 : (.selects RX11 yX11_scan yX11_scan : Cond) ∈ lw_tbl ∧ (((.selects RX11 yX11_scan yX11_scan : Cond).onTables && (.selects RX11 yX11_scan yX11_scan : Cond).keeps) = true ∨ ∃ ty, (.selects RX11 yX11_scan yX11_scan : Cond) = .arrayClass ty) := ⟨in_p15 (q := (yX11_scan, 76)) (List.mem_of_getElem? (i := 11) rfl), Or.inl rfl⟩
set_option maxRecDepth 100000 in
theorem mw_306 : (.code yX11_statementEnd cX11_statementEnd 4 (some .int) : Cond) ∈ WA := inB_9 (List.mem_of_getElem? (i := 18) rfl)
set_option maxRecDepth 100000 in
theorem ml_306 : (.code yX11_statementEnd cX11_statementEnd 4 (some .int) : Cond) ∈ lw_tbl ∧ (((.code yX11_statementEnd cX11_statementEnd 4 (some .int) : Cond).onTables && (.code yX11_statementEnd cX11_statementEnd 4 (some .int) : Cond).keeps) = true ∨ ∃ ty, (.code yX11_statementEnd cX11_statementEnd 4 (some .int) : Cond) = .arrayClass ty) := ⟨in_t9 (List.mem_of_getElem? (i := 217) rfl), Or.inl rfl⟩
set_option maxRecDepth 100000 in
theorem mw_307 : (.methodLink RX11 897 yX11_statementEnd : Cond) ∈ WA := inB_9 (List.mem_of_getElem? (i := 19) rfl)
set_option maxRecDepth 100000 in
theorem ml_307 : (.methodLink RX11 897 yX11_statementEnd : Cond) ∈ lw_tbl ∧ (((.methodLink RX11 897 yX11_statementEnd : Cond).onTables && (.methodLink RX11 897 yX11_statementEnd : Cond).keeps) = true ∨ ∃ ty, (.methodLink RX11 897 yX11_statementEnd : Cond) = .arrayClass ty) := ⟨in_t9 (List.mem_of_getElem? (i := 214) rfl), Or.inl rfl⟩
set_option maxRecDepth 100000 in
theorem mw_308 : (.instanceMethod yX11_statementEnd : Cond) ∈ WA := inB_9 (List.mem_of_getElem? (i := 20) rfl)
set_option maxRecDepth 100000 in
theorem ml_308 : (.instanceMethod yX11_statementEnd : Cond) ∈ lw_tbl ∧ (((.instanceMethod yX11_statementEnd : Cond).onTables && (.instanceMethod yX11_statementEnd : Cond).keeps) = true ∨ ∃ ty, (.instanceMethod yX11_statementEnd : Cond) = .arrayClass ty) := ⟨in_t9 (List.mem_of_getElem? (i := 216) rfl), Or.inl rfl⟩
set_option maxRecDepth 100000 in
theorem mw_309 : (.selects RX11 yX11_statementEnd yX11_statementEnd : Cond) ∈ WA := inB_9 (List.mem_of_getElem? (i := 21) rfl)
set_option maxRecDepth 100000 in
theorem ml_309 : (.selects RX11 yX11_statementEnd yX11_statementEnd : Cond) ∈ lw_tbl ∧ (((.selects RX11 yX11_statementEnd yX11_statementEnd : Cond).onTables && (.selects RX11 yX11_statementEnd yX11_statementEnd : Cond).keeps) = true ∨ ∃ ty, (.selects RX11 yX11_statementEnd yX11_statementEnd : Cond) = .arrayClass ty) := ⟨in_p16 (q := (yX11_statementEnd, 76)) (List.mem_of_getElem? (i := 6) rfl), Or.inl rfl⟩
set_option maxRecDepth 100000 in
theorem mw_310 : (.fieldLink RX11 870 "ArrayHouseModel" "frames" "I" : Cond) ∈ WA := inB_9 (List.mem_of_getElem? (i := 22) rfl)
set_option maxRecDepth 100000 in
theorem ml_310 : (.fieldLink RX11 870 "ArrayHouseModel" "frames" "I" : Cond) ∈ lw_tbl ∧ (((.fieldLink RX11 870 "ArrayHouseModel" "frames" "I" : Cond).onTables && (.fieldLink RX11 870 "ArrayHouseModel" "frames" "I" : Cond).keeps) = true ∨ ∃ ty, (.fieldLink RX11 870 "ArrayHouseModel" "frames" "I" : Cond) = .arrayClass ty) := ⟨in_t8 (List.mem_of_getElem? (i := 193) rfl), Or.inl rfl⟩
set_option maxRecDepth 100000 in
theorem mw_311 : (.code yX11_unframe cX11_unframe 3 none : Cond) ∈ WA := inB_9 (List.mem_of_getElem? (i := 23) rfl)
set_option maxRecDepth 100000 in
theorem ml_311 : (.code yX11_unframe cX11_unframe 3 none : Cond) ∈ lw_tbl ∧ (((.code yX11_unframe cX11_unframe 3 none : Cond).onTables && (.code yX11_unframe cX11_unframe 3 none : Cond).keeps) = true ∨ ∃ ty, (.code yX11_unframe cX11_unframe 3 none : Cond) = .arrayClass ty) := ⟨in_t12 (List.mem_of_getElem? (i := 126) rfl), Or.inl rfl⟩
set_option maxRecDepth 100000 in
theorem mw_312 : (.methodLink RX11 882 yX11_unframe : Cond) ∈ WA := inB_9 (List.mem_of_getElem? (i := 24) rfl)
set_option maxRecDepth 100000 in
theorem ml_312 : (.methodLink RX11 882 yX11_unframe : Cond) ∈ lw_tbl ∧ (((.methodLink RX11 882 yX11_unframe : Cond).onTables && (.methodLink RX11 882 yX11_unframe : Cond).keeps) = true ∨ ∃ ty, (.methodLink RX11 882 yX11_unframe : Cond) = .arrayClass ty) := ⟨in_t12 (List.mem_of_getElem? (i := 123) rfl), Or.inl rfl⟩
set_option maxRecDepth 100000 in
theorem mw_313 : (.instanceMethod yX11_unframe : Cond) ∈ WA := inB_9 (List.mem_of_getElem? (i := 25) rfl)
set_option maxRecDepth 100000 in
theorem ml_313 : (.instanceMethod yX11_unframe : Cond) ∈ lw_tbl ∧ (((.instanceMethod yX11_unframe : Cond).onTables && (.instanceMethod yX11_unframe : Cond).keeps) = true ∨ ∃ ty, (.instanceMethod yX11_unframe : Cond) = .arrayClass ty) := ⟨in_t12 (List.mem_of_getElem? (i := 125) rfl), Or.inl rfl⟩
set_option maxRecDepth 100000 in
theorem mw_314 : (.selects RX11 yX11_unframe yX11_unframe : Cond) ∈ WA := inB_9 (List.mem_of_getElem? (i := 26) rfl)
set_option maxRecDepth 100000 in
theorem ml_314 : (.selects RX11 yX11_unframe yX11_unframe : Cond) ∈ lw_tbl ∧ (((.selects RX11 yX11_unframe yX11_unframe : Cond).onTables && (.selects RX11 yX11_unframe yX11_unframe : Cond).keeps) = true ∨ ∃ ty, (.selects RX11 yX11_unframe yX11_unframe : Cond) = .arrayClass ty) := ⟨in_p25 (q := (yX11_unframe, 76)) (List.mem_of_getElem? (i := 9) rfl), Or.inl rfl⟩
set_option maxRecDepth 100000 in
theorem mw_315 : (.fieldLink RX11 934 "ArrayHouseModel" "keepTop" "I" : Cond) ∈ WA := inB_9 (List.mem_of_getElem? (i := 27) rfl)
set_option maxRecDepth 100000 in
theorem ml_315 : (.fieldLink RX11 934 "ArrayHouseModel" "keepTop" "I" : Cond) ∈ lw_tbl ∧ (((.fieldLink RX11 934 "ArrayHouseModel" "keepTop" "I" : Cond).onTables && (.fieldLink RX11 934 "ArrayHouseModel" "keepTop" "I" : Cond).keeps) = true ∨ ∃ ty, (.fieldLink RX11 934 "ArrayHouseModel" "keepTop" "I" : Cond) = .arrayClass ty) := ⟨in_t8 (List.mem_of_getElem? (i := 220) rfl), Or.inl rfl⟩
set_option maxRecDepth 100000 in
theorem mw_316 : (.code yX11_settle cX11_settle 2 none : Cond) ∈ WA := inB_9 (List.mem_of_getElem? (i := 28) rfl)
set_option maxRecDepth 100000 in
theorem ml_316 : (.code yX11_settle cX11_settle 2 none : Cond) ∈ lw_tbl ∧ (((.code yX11_settle cX11_settle 2 none : Cond).onTables && (.code yX11_settle cX11_settle 2 none : Cond).keeps) = true ∨ ∃ ty, (.code yX11_settle cX11_settle 2 none : Cond) = .arrayClass ty) := ⟨in_t12 (List.mem_of_getElem? (i := 222) rfl), Or.inl rfl⟩
set_option maxRecDepth 100000 in
theorem mw_317 : (.methodLink RX11 931 yX11_settle : Cond) ∈ WA := inB_9 (List.mem_of_getElem? (i := 29) rfl)
set_option maxRecDepth 100000 in
theorem ml_317 : (.methodLink RX11 931 yX11_settle : Cond) ∈ lw_tbl ∧ (((.methodLink RX11 931 yX11_settle : Cond).onTables && (.methodLink RX11 931 yX11_settle : Cond).keeps) = true ∨ ∃ ty, (.methodLink RX11 931 yX11_settle : Cond) = .arrayClass ty) := ⟨in_t12 (List.mem_of_getElem? (i := 219) rfl), Or.inl rfl⟩
set_option maxRecDepth 100000 in
theorem mw_318 : (.instanceMethod yX11_settle : Cond) ∈ WA := inB_9 (List.mem_of_getElem? (i := 30) rfl)
set_option maxRecDepth 100000 in
theorem ml_318 : (.instanceMethod yX11_settle : Cond) ∈ lw_tbl ∧ (((.instanceMethod yX11_settle : Cond).onTables && (.instanceMethod yX11_settle : Cond).keeps) = true ∨ ∃ ty, (.instanceMethod yX11_settle : Cond) = .arrayClass ty) := ⟨in_t12 (List.mem_of_getElem? (i := 221) rfl), Or.inl rfl⟩
set_option maxRecDepth 100000 in
theorem mw_319 : (.selects RX11 yX11_settle yX11_settle : Cond) ∈ WA := inB_9 (List.mem_of_getElem? (i := 31) rfl)
set_option maxRecDepth 100000 in
theorem ml_319 : (.selects RX11 yX11_settle yX11_settle : Cond) ∈ lw_tbl ∧ (((.selects RX11 yX11_settle yX11_settle : Cond).onTables && (.selects RX11 yX11_settle yX11_settle : Cond).keeps) = true ∨ ∃ ty, (.selects RX11 yX11_settle yX11_settle : Cond) = .arrayClass ty) := ⟨in_p27 (q := (yX11_settle, 76)) (List.mem_of_getElem? (i := 0) rfl), Or.inl rfl⟩
set_option maxRecDepth 100000 in
theorem mw_320 : (.code yX11_run cX11_run 5 (some .int) : Cond) ∈ WA := inB_10 (List.mem_of_getElem? (i := 0) rfl)
set_option maxRecDepth 100000 in
theorem ml_320 : (.code yX11_run cX11_run 5 (some .int) : Cond) ∈ lw_tbl ∧ (((.code yX11_run cX11_run 5 (some .int) : Cond).onTables && (.code yX11_run cX11_run 5 (some .int) : Cond).keeps) = true ∨ ∃ ty, (.code yX11_run cX11_run 5 (some .int) : Cond) = .arrayClass ty) := ⟨in_t9 (List.mem_of_getElem? (i := 147) rfl), Or.inl rfl⟩
set_option maxRecDepth 100000 in
theorem mw_321 : (.methodLink RL 27 yX11_run : Cond) ∈ WA := inB_10 (List.mem_of_getElem? (i := 1) rfl)
set_option maxRecDepth 100000 in
theorem ml_321 : (.methodLink RL 27 yX11_run : Cond) ∈ lw_tbl ∧ (((.methodLink RL 27 yX11_run : Cond).onTables && (.methodLink RL 27 yX11_run : Cond).keeps) = true ∨ ∃ ty, (.methodLink RL 27 yX11_run : Cond) = .arrayClass ty) := ⟨in_t9 (List.mem_of_getElem? (i := 144) rfl), Or.inl rfl⟩
set_option maxRecDepth 100000 in
theorem mw_322 : (.instanceMethod yX11_run : Cond) ∈ WA := inB_10 (List.mem_of_getElem? (i := 2) rfl)
set_option maxRecDepth 100000 in
theorem ml_322 : (.instanceMethod yX11_run : Cond) ∈ lw_tbl ∧ (((.instanceMethod yX11_run : Cond).onTables && (.instanceMethod yX11_run : Cond).keeps) = true ∨ ∃ ty, (.instanceMethod yX11_run : Cond) = .arrayClass ty) := ⟨in_t9 (List.mem_of_getElem? (i := 145) rfl), Or.inl rfl⟩
set_option maxRecDepth 100000 in
theorem mw_323 : (.selects RX11 yX11_run yX11_run : Cond) ∈ WA := inB_10 (List.mem_of_getElem? (i := 3) rfl)
set_option maxRecDepth 100000 in
theorem ml_323 : (.selects RX11 yX11_run yX11_run : Cond) ∈ lw_tbl ∧ (((.selects RX11 yX11_run yX11_run : Cond).onTables && (.selects RX11 yX11_run yX11_run : Cond).keeps) = true ∨ ∃ ty, (.selects RX11 yX11_run yX11_run : Cond) = .arrayClass ty) := ⟨in_t9 (List.mem_of_getElem? (i := 146) rfl), Or.inl rfl⟩
set_option maxRecDepth 100000 in
theorem mw_324 : (.code yX10_at cX10_at 1 (some .int) : Cond) ∈ WA := inB_10 (List.mem_of_getElem? (i := 4) rfl)
set_option maxRecDepth 100000 in
theorem ml_324 : (.code yX10_at cX10_at 1 (some .int) : Cond) ∈ lw_tbl ∧ (((.code yX10_at cX10_at 1 (some .int) : Cond).onTables && (.code yX10_at cX10_at 1 (some .int) : Cond).keeps) = true ∨ ∃ ty, (.code yX10_at cX10_at 1 (some .int) : Cond) = .arrayClass ty) := ⟨in_t8 (List.mem_of_getElem? (i := 46) rfl), Or.inl rfl⟩
set_option maxRecDepth 100000 in
theorem mw_325 : (.methodLink RL 28 yX10_at : Cond) ∈ WA := inB_10 (List.mem_of_getElem? (i := 5) rfl)
set_option maxRecDepth 100000 in
theorem ml_325 : (.methodLink RL 28 yX10_at : Cond) ∈ lw_tbl ∧ (((.methodLink RL 28 yX10_at : Cond).onTables && (.methodLink RL 28 yX10_at : Cond).keeps) = true ∨ ∃ ty, (.methodLink RL 28 yX10_at : Cond) = .arrayClass ty) := ⟨in_t8 (List.mem_of_getElem? (i := 43) rfl), Or.inl rfl⟩
set_option maxRecDepth 100000 in
theorem mw_326 : (.instanceMethod yX10_at : Cond) ∈ WA := inB_10 (List.mem_of_getElem? (i := 6) rfl)
set_option maxRecDepth 100000 in
theorem ml_326 : (.instanceMethod yX10_at : Cond) ∈ lw_tbl ∧ (((.instanceMethod yX10_at : Cond).onTables && (.instanceMethod yX10_at : Cond).keeps) = true ∨ ∃ ty, (.instanceMethod yX10_at : Cond) = .arrayClass ty) := ⟨in_t8 (List.mem_of_getElem? (i := 44) rfl), Or.inl rfl⟩
set_option maxRecDepth 100000 in
theorem mw_327 : (.selects RX10 yX10_at yX10_at : Cond) ∈ WA := inB_10 (List.mem_of_getElem? (i := 7) rfl)
set_option maxRecDepth 100000 in
theorem ml_327 : (.selects RX10 yX10_at yX10_at : Cond) ∈ lw_tbl ∧ (((.selects RX10 yX10_at yX10_at : Cond).onTables && (.selects RX10 yX10_at yX10_at : Cond).keeps) = true ∨ ∃ ty, (.selects RX10 yX10_at yX10_at : Cond) = .arrayClass ty) := ⟨in_t8 (List.mem_of_getElem? (i := 45) rfl), Or.inl rfl⟩
set_option maxRecDepth 100000 in
theorem mw_328 : (.code yX11_at cX11_at 1 (some .int) : Cond) ∈ WA := inB_10 (List.mem_of_getElem? (i := 8) rfl)
set_option maxRecDepth 100000 in
theorem ml_328 : (.code yX11_at cX11_at 1 (some .int) : Cond) ∈ lw_tbl ∧ (((.code yX11_at cX11_at 1 (some .int) : Cond).onTables && (.code yX11_at cX11_at 1 (some .int) : Cond).keeps) = true ∨ ∃ ty, (.code yX11_at cX11_at 1 (some .int) : Cond) = .arrayClass ty) := ⟨in_t12 (List.mem_of_getElem? (i := 230) rfl), Or.inl rfl⟩
set_option maxRecDepth 100000 in
theorem mw_329 : (.methodLink RL 31 yX11_at : Cond) ∈ WA := inB_10 (List.mem_of_getElem? (i := 9) rfl)
set_option maxRecDepth 100000 in
theorem ml_329 : (.methodLink RL 31 yX11_at : Cond) ∈ lw_tbl ∧ (((.methodLink RL 31 yX11_at : Cond).onTables && (.methodLink RL 31 yX11_at : Cond).keeps) = true ∨ ∃ ty, (.methodLink RL 31 yX11_at : Cond) = .arrayClass ty) := ⟨in_t12 (List.mem_of_getElem? (i := 227) rfl), Or.inl rfl⟩
set_option maxRecDepth 100000 in
theorem mw_330 : (.instanceMethod yX11_at : Cond) ∈ WA := inB_10 (List.mem_of_getElem? (i := 10) rfl)
set_option maxRecDepth 100000 in
theorem ml_330 : (.instanceMethod yX11_at : Cond) ∈ lw_tbl ∧ (((.instanceMethod yX11_at : Cond).onTables && (.instanceMethod yX11_at : Cond).keeps) = true ∨ ∃ ty, (.instanceMethod yX11_at : Cond) = .arrayClass ty) := ⟨in_t12 (List.mem_of_getElem? (i := 228) rfl), Or.inl rfl⟩
set_option maxRecDepth 100000 in
theorem mw_331 : (.selects RX11 yX11_at yX11_at : Cond) ∈ WA := inB_10 (List.mem_of_getElem? (i := 11) rfl)
set_option maxRecDepth 100000 in
theorem ml_331 : (.selects RX11 yX11_at yX11_at : Cond) ∈ lw_tbl ∧ (((.selects RX11 yX11_at yX11_at : Cond).onTables && (.selects RX11 yX11_at yX11_at : Cond).keeps) = true ∨ ∃ ty, (.selects RX11 yX11_at yX11_at : Cond) = .arrayClass ty) := ⟨in_t12 (List.mem_of_getElem? (i := 229) rfl), Or.inl rfl⟩
set_option maxRecDepth 100000 in
theorem mw_332 : (.code yX10_steps cX10_steps 1 (some .int) : Cond) ∈ WA := inB_10 (List.mem_of_getElem? (i := 12) rfl)
set_option maxRecDepth 100000 in
theorem ml_332 : (.code yX10_steps cX10_steps 1 (some .int) : Cond) ∈ lw_tbl ∧ (((.code yX10_steps cX10_steps 1 (some .int) : Cond).onTables && (.code yX10_steps cX10_steps 1 (some .int) : Cond).keeps) = true ∨ ∃ ty, (.code yX10_steps cX10_steps 1 (some .int) : Cond) = .arrayClass ty) := ⟨in_t8 (List.mem_of_getElem? (i := 50) rfl), Or.inl rfl⟩
set_option maxRecDepth 100000 in
theorem mw_333 : (.methodLink RL 32 yX10_steps : Cond) ∈ WA := inB_10 (List.mem_of_getElem? (i := 13) rfl)
set_option maxRecDepth 100000 in
theorem ml_333 : (.methodLink RL 32 yX10_steps : Cond) ∈ lw_tbl ∧ (((.methodLink RL 32 yX10_steps : Cond).onTables && (.methodLink RL 32 yX10_steps : Cond).keeps) = true ∨ ∃ ty, (.methodLink RL 32 yX10_steps : Cond) = .arrayClass ty) := ⟨in_t8 (List.mem_of_getElem? (i := 47) rfl), Or.inl rfl⟩
set_option maxRecDepth 100000 in
theorem mw_334 : (.instanceMethod yX10_steps : Cond) ∈ WA := inB_10 (List.mem_of_getElem? (i := 14) rfl)
set_option maxRecDepth 100000 in
theorem ml_334 : (.instanceMethod yX10_steps : Cond) ∈ lw_tbl ∧ (((.instanceMethod yX10_steps : Cond).onTables && (.instanceMethod yX10_steps : Cond).keeps) = true ∨ ∃ ty, (.instanceMethod yX10_steps : Cond) = .arrayClass ty) := ⟨in_t8 (List.mem_of_getElem? (i := 48) rfl), Or.inl rfl⟩
set_option maxRecDepth 100000 in
theorem mw_335 : (.selects RX10 yX10_steps yX10_steps : Cond) ∈ WA := inB_10 (List.mem_of_getElem? (i := 15) rfl)
set_option maxRecDepth 100000 in
theorem ml_335 : (.selects RX10 yX10_steps yX10_steps : Cond) ∈ lw_tbl ∧ (((.selects RX10 yX10_steps yX10_steps : Cond).onTables && (.selects RX10 yX10_steps yX10_steps : Cond).keeps) = true ∨ ∃ ty, (.selects RX10 yX10_steps yX10_steps : Cond) = .arrayClass ty) := ⟨in_t8 (List.mem_of_getElem? (i := 49) rfl), Or.inl rfl⟩
set_option maxRecDepth 100000 in
theorem mw_336 : (.code yX11_steps cX11_steps 1 (some .int) : Cond) ∈ WA := inB_10 (List.mem_of_getElem? (i := 16) rfl)
set_option maxRecDepth 100000 in
theorem ml_336 : (.code yX11_steps cX11_steps 1 (some .int) : Cond) ∈ lw_tbl ∧ (((.code yX11_steps cX11_steps 1 (some .int) : Cond).onTables && (.code yX11_steps cX11_steps 1 (some .int) : Cond).keeps) = true ∨ ∃ ty, (.code yX11_steps cX11_steps 1 (some .int) : Cond) = .arrayClass ty) := ⟨in_t12 (List.mem_of_getElem? (i := 234) rfl), Or.inl rfl⟩
set_option maxRecDepth 100000 in
theorem mw_337 : (.methodLink RL 35 yX11_steps : Cond) ∈ WA := inB_10 (List.mem_of_getElem? (i := 17) rfl)
set_option maxRecDepth 100000 in
theorem ml_337 : (.methodLink RL 35 yX11_steps : Cond) ∈ lw_tbl ∧ (((.methodLink RL 35 yX11_steps : Cond).onTables && (.methodLink RL 35 yX11_steps : Cond).keeps) = true ∨ ∃ ty, (.methodLink RL 35 yX11_steps : Cond) = .arrayClass ty) := ⟨in_t12 (List.mem_of_getElem? (i := 231) rfl), Or.inl rfl⟩
set_option maxRecDepth 100000 in
theorem mw_338 : (.instanceMethod yX11_steps : Cond) ∈ WA := inB_10 (List.mem_of_getElem? (i := 18) rfl)
set_option maxRecDepth 100000 in
theorem ml_338 : (.instanceMethod yX11_steps : Cond) ∈ lw_tbl ∧ (((.instanceMethod yX11_steps : Cond).onTables && (.instanceMethod yX11_steps : Cond).keeps) = true ∨ ∃ ty, (.instanceMethod yX11_steps : Cond) = .arrayClass ty) := ⟨in_t12 (List.mem_of_getElem? (i := 232) rfl), Or.inl rfl⟩
set_option maxRecDepth 100000 in
theorem mw_339 : (.selects RX11 yX11_steps yX11_steps : Cond) ∈ WA := inB_10 (List.mem_of_getElem? (i := 19) rfl)
set_option maxRecDepth 100000 in
theorem ml_339 : (.selects RX11 yX11_steps yX11_steps : Cond) ∈ lw_tbl ∧ (((.selects RX11 yX11_steps yX11_steps : Cond).onTables && (.selects RX11 yX11_steps yX11_steps : Cond).keeps) = true ∨ ∃ ty, (.selects RX11 yX11_steps yX11_steps : Cond) = .arrayClass ty) := ⟨in_t12 (List.mem_of_getElem? (i := 233) rfl), Or.inl rfl⟩
set_option maxRecDepth 100000 in
theorem mw_340 : (.code yX10_shown cX10_shown 1 (some .int) : Cond) ∈ WA := inB_10 (List.mem_of_getElem? (i := 20) rfl)
set_option maxRecDepth 100000 in
theorem ml_340 : (.code yX10_shown cX10_shown 1 (some .int) : Cond) ∈ lw_tbl ∧ (((.code yX10_shown cX10_shown 1 (some .int) : Cond).onTables && (.code yX10_shown cX10_shown 1 (some .int) : Cond).keeps) = true ∨ ∃ ty, (.code yX10_shown cX10_shown 1 (some .int) : Cond) = .arrayClass ty) := ⟨in_t8 (List.mem_of_getElem? (i := 54) rfl), Or.inl rfl⟩
set_option maxRecDepth 100000 in
theorem mw_341 : (.methodLink RL 36 yX10_shown : Cond) ∈ WA := inB_10 (List.mem_of_getElem? (i := 21) rfl)
set_option maxRecDepth 100000 in
theorem ml_341 : (.methodLink RL 36 yX10_shown : Cond) ∈ lw_tbl ∧ (((.methodLink RL 36 yX10_shown : Cond).onTables && (.methodLink RL 36 yX10_shown : Cond).keeps) = true ∨ ∃ ty, (.methodLink RL 36 yX10_shown : Cond) = .arrayClass ty) := ⟨in_t8 (List.mem_of_getElem? (i := 51) rfl), Or.inl rfl⟩
set_option maxRecDepth 100000 in
theorem mw_342 : (.instanceMethod yX10_shown : Cond) ∈ WA := inB_10 (List.mem_of_getElem? (i := 22) rfl)
set_option maxRecDepth 100000 in
theorem ml_342 : (.instanceMethod yX10_shown : Cond) ∈ lw_tbl ∧ (((.instanceMethod yX10_shown : Cond).onTables && (.instanceMethod yX10_shown : Cond).keeps) = true ∨ ∃ ty, (.instanceMethod yX10_shown : Cond) = .arrayClass ty) := ⟨in_t8 (List.mem_of_getElem? (i := 52) rfl), Or.inl rfl⟩
set_option maxRecDepth 100000 in
theorem mw_343 : (.selects RX10 yX10_shown yX10_shown : Cond) ∈ WA := inB_10 (List.mem_of_getElem? (i := 23) rfl)
set_option maxRecDepth 100000 in
theorem ml_343 : (.selects RX10 yX10_shown yX10_shown : Cond) ∈ lw_tbl ∧ (((.selects RX10 yX10_shown yX10_shown : Cond).onTables && (.selects RX10 yX10_shown yX10_shown : Cond).keeps) = true ∨ ∃ ty, (.selects RX10 yX10_shown yX10_shown : Cond) = .arrayClass ty) := ⟨in_t8 (List.mem_of_getElem? (i := 53) rfl), Or.inl rfl⟩
set_option maxRecDepth 100000 in
theorem mw_344 : (.code yX11_shown cX11_shown 1 (some .int) : Cond) ∈ WA := inB_10 (List.mem_of_getElem? (i := 24) rfl)
set_option maxRecDepth 100000 in
theorem ml_344 : (.code yX11_shown cX11_shown 1 (some .int) : Cond) ∈ lw_tbl ∧ (((.code yX11_shown cX11_shown 1 (some .int) : Cond).onTables && (.code yX11_shown cX11_shown 1 (some .int) : Cond).keeps) = true ∨ ∃ ty, (.code yX11_shown cX11_shown 1 (some .int) : Cond) = .arrayClass ty) := ⟨in_t12 (List.mem_of_getElem? (i := 238) rfl), Or.inl rfl⟩
set_option maxRecDepth 100000 in
theorem mw_345 : (.methodLink RL 39 yX11_shown : Cond) ∈ WA := inB_10 (List.mem_of_getElem? (i := 25) rfl)
set_option maxRecDepth 100000 in
theorem ml_345 : (.methodLink RL 39 yX11_shown : Cond) ∈ lw_tbl ∧ (((.methodLink RL 39 yX11_shown : Cond).onTables && (.methodLink RL 39 yX11_shown : Cond).keeps) = true ∨ ∃ ty, (.methodLink RL 39 yX11_shown : Cond) = .arrayClass ty) := ⟨in_t12 (List.mem_of_getElem? (i := 235) rfl), Or.inl rfl⟩
set_option maxRecDepth 100000 in
theorem mw_346 : (.instanceMethod yX11_shown : Cond) ∈ WA := inB_10 (List.mem_of_getElem? (i := 26) rfl)
set_option maxRecDepth 100000 in
theorem ml_346 : (.instanceMethod yX11_shown : Cond) ∈ lw_tbl ∧ (((.instanceMethod yX11_shown : Cond).onTables && (.instanceMethod yX11_shown : Cond).keeps) = true ∨ ∃ ty, (.instanceMethod yX11_shown : Cond) = .arrayClass ty) := ⟨in_t12 (List.mem_of_getElem? (i := 236) rfl), Or.inl rfl⟩
set_option maxRecDepth 100000 in
theorem mw_347 : (.selects RX11 yX11_shown yX11_shown : Cond) ∈ WA := inB_10 (List.mem_of_getElem? (i := 27) rfl)
set_option maxRecDepth 100000 in
theorem ml_347 : (.selects RX11 yX11_shown yX11_shown : Cond) ∈ lw_tbl ∧ (((.selects RX11 yX11_shown yX11_shown : Cond).onTables && (.selects RX11 yX11_shown yX11_shown : Cond).keeps) = true ∨ ∃ ty, (.selects RX11 yX11_shown yX11_shown : Cond) = .arrayClass ty) := ⟨in_t12 (List.mem_of_getElem? (i := 237) rfl), Or.inl rfl⟩
set_option maxRecDepth 100000 in
theorem mw_348 : (.code yX10_byteAt cX10_byteAt 2 (some .int) : Cond) ∈ WA := inB_10 (List.mem_of_getElem? (i := 28) rfl)
set_option maxRecDepth 100000 in
theorem ml_348 : (.code yX10_byteAt cX10_byteAt 2 (some .int) : Cond) ∈ lw_tbl ∧ (((.code yX10_byteAt cX10_byteAt 2 (some .int) : Cond).onTables && (.code yX10_byteAt cX10_byteAt 2 (some .int) : Cond).keeps) = true ∨ ∃ ty, (.code yX10_byteAt cX10_byteAt 2 (some .int) : Cond) = .arrayClass ty) := ⟨in_t8 (List.mem_of_getElem? (i := 58) rfl), Or.inl rfl⟩
set_option maxRecDepth 100000 in
theorem mw_349 : (.methodLink RL 40 yX10_byteAt : Cond) ∈ WA := inB_10 (List.mem_of_getElem? (i := 29) rfl)
set_option maxRecDepth 100000 in
theorem ml_349 : (.methodLink RL 40 yX10_byteAt : Cond) ∈ lw_tbl ∧ (((.methodLink RL 40 yX10_byteAt : Cond).onTables && (.methodLink RL 40 yX10_byteAt : Cond).keeps) = true ∨ ∃ ty, (.methodLink RL 40 yX10_byteAt : Cond) = .arrayClass ty) := ⟨in_t8 (List.mem_of_getElem? (i := 55) rfl), Or.inl rfl⟩
set_option maxRecDepth 100000 in
theorem mw_350 : (.instanceMethod yX10_byteAt : Cond) ∈ WA := inB_10 (List.mem_of_getElem? (i := 30) rfl)
set_option maxRecDepth 100000 in
theorem ml_350 : (.instanceMethod yX10_byteAt : Cond) ∈ lw_tbl ∧ (((.instanceMethod yX10_byteAt : Cond).onTables && (.instanceMethod yX10_byteAt : Cond).keeps) = true ∨ ∃ ty, (.instanceMethod yX10_byteAt : Cond) = .arrayClass ty) := ⟨in_t8 (List.mem_of_getElem? (i := 56) rfl), Or.inl rfl⟩
set_option maxRecDepth 100000 in
theorem mw_351 : (.selects RX10 yX10_byteAt yX10_byteAt : Cond) ∈ WA := inB_10 (List.mem_of_getElem? (i := 31) rfl)
set_option maxRecDepth 100000 in
theorem ml_351 : (.selects RX10 yX10_byteAt yX10_byteAt : Cond) ∈ lw_tbl ∧ (((.selects RX10 yX10_byteAt yX10_byteAt : Cond).onTables && (.selects RX10 yX10_byteAt yX10_byteAt : Cond).keeps) = true ∨ ∃ ty, (.selects RX10 yX10_byteAt yX10_byteAt : Cond) = .arrayClass ty) := ⟨in_t8 (List.mem_of_getElem? (i := 57) rfl), Or.inl rfl⟩
set_option maxRecDepth 100000 in
theorem mw_352 : (.code yX11_byteAt cX11_byteAt 2 (some .int) : Cond) ∈ WA := inB_11 (List.mem_of_getElem? (i := 0) rfl)
set_option maxRecDepth 100000 in
theorem ml_352 : (.code yX11_byteAt cX11_byteAt 2 (some .int) : Cond) ∈ lw_tbl ∧ (((.code yX11_byteAt cX11_byteAt 2 (some .int) : Cond).onTables && (.code yX11_byteAt cX11_byteAt 2 (some .int) : Cond).keeps) = true ∨ ∃ ty, (.code yX11_byteAt cX11_byteAt 2 (some .int) : Cond) = .arrayClass ty) := ⟨in_t13 (List.mem_of_getElem? (i := 2) rfl), Or.inl rfl⟩
set_option maxRecDepth 100000 in
theorem mw_353 : (.methodLink RL 43 yX11_byteAt : Cond) ∈ WA := inB_11 (List.mem_of_getElem? (i := 1) rfl)
set_option maxRecDepth 100000 in
theorem ml_353 : (.methodLink RL 43 yX11_byteAt : Cond) ∈ lw_tbl ∧ (((.methodLink RL 43 yX11_byteAt : Cond).onTables && (.methodLink RL 43 yX11_byteAt : Cond).keeps) = true ∨ ∃ ty, (.methodLink RL 43 yX11_byteAt : Cond) = .arrayClass ty) := ⟨in_t12 (List.mem_of_getElem? (i := 239) rfl), Or.inl rfl⟩
set_option maxRecDepth 100000 in
theorem mw_354 : (.instanceMethod yX11_byteAt : Cond) ∈ WA := inB_11 (List.mem_of_getElem? (i := 2) rfl)
set_option maxRecDepth 100000 in
theorem ml_354 : (.instanceMethod yX11_byteAt : Cond) ∈ lw_tbl ∧ (((.instanceMethod yX11_byteAt : Cond).onTables && (.instanceMethod yX11_byteAt : Cond).keeps) = true ∨ ∃ ty, (.instanceMethod yX11_byteAt : Cond) = .arrayClass ty) := ⟨in_t13 (List.mem_of_getElem? (i := 0) rfl), Or.inl rfl⟩
set_option maxRecDepth 100000 in
theorem mw_355 : (.selects RX11 yX11_byteAt yX11_byteAt : Cond) ∈ WA := inB_11 (List.mem_of_getElem? (i := 3) rfl)
set_option maxRecDepth 100000 in
theorem ml_355 : (.selects RX11 yX11_byteAt yX11_byteAt : Cond) ∈ lw_tbl ∧ (((.selects RX11 yX11_byteAt yX11_byteAt : Cond).onTables && (.selects RX11 yX11_byteAt yX11_byteAt : Cond).keeps) = true ∨ ∃ ty, (.selects RX11 yX11_byteAt yX11_byteAt : Cond) = .arrayClass ty) := ⟨in_t13 (List.mem_of_getElem? (i := 1) rfl), Or.inl rfl⟩
set_option maxRecDepth 100000 in
theorem mw_356 : (.code yX10_nameOnTape cX10_nameOnTape 3 (some .int) : Cond) ∈ WA := inB_11 (List.mem_of_getElem? (i := 4) rfl)
set_option maxRecDepth 100000 in
theorem ml_356 : (.code yX10_nameOnTape cX10_nameOnTape 3 (some .int) : Cond) ∈ lw_tbl ∧ (((.code yX10_nameOnTape cX10_nameOnTape 3 (some .int) : Cond).onTables && (.code yX10_nameOnTape cX10_nameOnTape 3 (some .int) : Cond).keeps) = true ∨ ∃ ty, (.code yX10_nameOnTape cX10_nameOnTape 3 (some .int) : Cond) = .arrayClass ty) := ⟨in_t8 (List.mem_of_getElem? (i := 66) rfl), Or.inl rfl⟩
set_option maxRecDepth 100000 in
theorem mw_357 : (.methodLink RX10 193 yX10_nameOnTape : Cond) ∈ WA := inB_11 (List.mem_of_getElem? (i := 5) rfl)
set_option maxRecDepth 100000 in
theorem ml_357 : (.methodLink RX10 193 yX10_nameOnTape : Cond) ∈ lw_tbl ∧ (((.methodLink RX10 193 yX10_nameOnTape : Cond).onTables && (.methodLink RX10 193 yX10_nameOnTape : Cond).keeps) = true ∨ ∃ ty, (.methodLink RX10 193 yX10_nameOnTape : Cond) = .arrayClass ty) := ⟨in_t8 (List.mem_of_getElem? (i := 63) rfl), Or.inl rfl⟩
set_option maxRecDepth 100000 in
theorem mw_358 : (.instanceMethod yX10_nameOnTape : Cond) ∈ WA := inB_11 (List.mem_of_getElem? (i := 6) rfl)
set_option maxRecDepth 100000 in
theorem ml_358 : (.instanceMethod yX10_nameOnTape : Cond) ∈ lw_tbl ∧ (((.instanceMethod yX10_nameOnTape : Cond).onTables && (.instanceMethod yX10_nameOnTape : Cond).keeps) = true ∨ ∃ ty, (.instanceMethod yX10_nameOnTape : Cond) = .arrayClass ty) := ⟨in_t8 (List.mem_of_getElem? (i := 65) rfl), Or.inl rfl⟩
set_option maxRecDepth 100000 in
theorem mw_359 : (.selects RX10 yX10_nameOnTape yX10_nameOnTape : Cond) ∈ WA := inB_11 (List.mem_of_getElem? (i := 7) rfl)
set_option maxRecDepth 100000 in
theorem ml_359 : (.selects RX10 yX10_nameOnTape yX10_nameOnTape : Cond) ∈ lw_tbl ∧ (((.selects RX10 yX10_nameOnTape yX10_nameOnTape : Cond).onTables && (.selects RX10 yX10_nameOnTape yX10_nameOnTape : Cond).keeps) = true ∨ ∃ ty, (.selects RX10 yX10_nameOnTape yX10_nameOnTape : Cond) = .arrayClass ty) := ⟨in_p15 (q := (yX10_nameOnTape, 11)) (List.mem_of_getElem? (i := 5) rfl), Or.inl rfl⟩
set_option maxRecDepth 100000 in
theorem mw_360 : (.code yX10_view cX10_view 2 (some .int) : Cond) ∈ WA := inB_11 (List.mem_of_getElem? (i := 8) rfl)
set_option maxRecDepth 100000 in
theorem ml_360 : (.code yX10_view cX10_view 2 (some .int) : Cond) ∈ lw_tbl ∧ (((.code yX10_view cX10_view 2 (some .int) : Cond).onTables && (.code yX10_view cX10_view 2 (some .int) : Cond).keeps) = true ∨ ∃ ty, (.code yX10_view cX10_view 2 (some .int) : Cond) = .arrayClass ty) := ⟨in_t8 (List.mem_of_getElem? (i := 62) rfl), Or.inl rfl⟩
set_option maxRecDepth 100000 in
theorem mw_361 : (.methodLink RL 44 yX10_view : Cond) ∈ WA := inB_11 (List.mem_of_getElem? (i := 9) rfl)
set_option maxRecDepth 100000 in
theorem ml_361 : (.methodLink RL 44 yX10_view : Cond) ∈ lw_tbl ∧ (((.methodLink RL 44 yX10_view : Cond).onTables && (.methodLink RL 44 yX10_view : Cond).keeps) = true ∨ ∃ ty, (.methodLink RL 44 yX10_view : Cond) = .arrayClass ty) := ⟨in_t8 (List.mem_of_getElem? (i := 59) rfl), Or.inl rfl⟩
set_option maxRecDepth 100000 in
theorem mw_362 : (.instanceMethod yX10_view : Cond) ∈ WA := inB_11 (List.mem_of_getElem? (i := 10) rfl)
set_option maxRecDepth 100000 in
theorem ml_362 : (.instanceMethod yX10_view : Cond) ∈ lw_tbl ∧ (((.instanceMethod yX10_view : Cond).onTables && (.instanceMethod yX10_view : Cond).keeps) = true ∨ ∃ ty, (.instanceMethod yX10_view : Cond) = .arrayClass ty) := ⟨in_t8 (List.mem_of_getElem? (i := 60) rfl), Or.inl rfl⟩
set_option maxRecDepth 100000 in
theorem mw_363 : (.selects RX10 yX10_view yX10_view : Cond) ∈ WA := inB_11 (List.mem_of_getElem? (i := 11) rfl)
set_option maxRecDepth 100000 in
theorem ml_363 : (.selects RX10 yX10_view yX10_view : Cond) ∈ lw_tbl ∧ (((.selects RX10 yX10_view yX10_view : Cond).onTables && (.selects RX10 yX10_view yX10_view : Cond).keeps) = true ∨ ∃ ty, (.selects RX10 yX10_view yX10_view : Cond) = .arrayClass ty) := ⟨in_t8 (List.mem_of_getElem? (i := 61) rfl), Or.inl rfl⟩
set_option maxRecDepth 100000 in
theorem mw_364 : (.code yX11_taken_ cX11_taken_ 4 (some .int) : Cond) ∈ WA := inB_11 (List.mem_of_getElem? (i := 12) rfl)
set_option maxRecDepth 100000 in
theorem ml_364 : (.code yX11_taken_ cX11_taken_ 4 (some .int) : Cond) ∈ lw_tbl ∧ (((.code yX11_taken_ cX11_taken_ 4 (some .int) : Cond).onTables && (.code yX11_taken_ cX11_taken_ 4 (some .int) : Cond).keeps) = true ∨ ∃ ty, (.code yX11_taken_ cX11_taken_ 4 (some .int) : Cond) = .arrayClass ty) := ⟨in_t13 (List.mem_of_getElem? (i := 10) rfl), Or.inl rfl⟩
set_option maxRecDepth 100000 in
theorem mw_365 : (.methodLink RX11 940 yX11_taken_ : Cond) ∈ WA := inB_11 (List.mem_of_getElem? (i := 13) rfl)
set_option maxRecDepth 100000 in
theorem ml_365 : (.methodLink RX11 940 yX11_taken_ : Cond) ∈ lw_tbl ∧ (((.methodLink RX11 940 yX11_taken_ : Cond).onTables && (.methodLink RX11 940 yX11_taken_ : Cond).keeps) = true ∨ ∃ ty, (.methodLink RX11 940 yX11_taken_ : Cond) = .arrayClass ty) := ⟨in_t13 (List.mem_of_getElem? (i := 7) rfl), Or.inl rfl⟩
set_option maxRecDepth 100000 in
theorem mw_366 : (.instanceMethod yX11_taken_ : Cond) ∈ WA := inB_11 (List.mem_of_getElem? (i := 14) rfl)
set_option maxRecDepth 100000 in
theorem ml_366 : (.instanceMethod yX11_taken_ : Cond) ∈ lw_tbl ∧ (((.instanceMethod yX11_taken_ : Cond).onTables && (.instanceMethod yX11_taken_ : Cond).keeps) = true ∨ ∃ ty, (.instanceMethod yX11_taken_ : Cond) = .arrayClass ty) := ⟨in_t13 (List.mem_of_getElem? (i := 9) rfl), Or.inl rfl⟩
set_option maxRecDepth 100000 in
theorem mw_367 : (.selects RX11 yX11_taken_ yX11_taken_ : Cond) ∈ WA := inB_11 (List.mem_of_getElem? (i := 15) rfl)
set_option maxRecDepth 100000 in
theorem ml_367 : (.selects RX11 yX11_taken_ yX11_taken_ : Cond) ∈ lw_tbl ∧ (((.selects RX11 yX11_taken_ yX11_taken_ : Cond).onTables && (.selects RX11 yX11_taken_ yX11_taken_ : Cond).keeps) = true ∨ ∃ ty, (.selects RX11 yX11_taken_ yX11_taken_ : Cond) = .arrayClass ty) := ⟨in_p27 (q := (yX11_taken_, 76)) (List.mem_of_getElem? (i := 2) rfl), Or.inl rfl⟩
set_option maxRecDepth 100000 in
theorem mw_368 : (.code yX11_view cX11_view 2 (some .int) : Cond) ∈ WA := inB_11 (List.mem_of_getElem? (i := 16) rfl)
set_option maxRecDepth 100000 in
theorem ml_368 : (.code yX11_view cX11_view 2 (some .int) : Cond) ∈ lw_tbl ∧ (((.code yX11_view cX11_view 2 (some .int) : Cond).onTables && (.code yX11_view cX11_view 2 (some .int) : Cond).keeps) = true ∨ ∃ ty, (.code yX11_view cX11_view 2 (some .int) : Cond) = .arrayClass ty) := ⟨in_t13 (List.mem_of_getElem? (i := 6) rfl), Or.inl rfl⟩
set_option maxRecDepth 100000 in
theorem mw_369 : (.methodLink RL 47 yX11_view : Cond) ∈ WA := inB_11 (List.mem_of_getElem? (i := 17) rfl)
set_option maxRecDepth 100000 in
theorem ml_369 : (.methodLink RL 47 yX11_view : Cond) ∈ lw_tbl ∧ (((.methodLink RL 47 yX11_view : Cond).onTables && (.methodLink RL 47 yX11_view : Cond).keeps) = true ∨ ∃ ty, (.methodLink RL 47 yX11_view : Cond) = .arrayClass ty) := ⟨in_t13 (List.mem_of_getElem? (i := 3) rfl), Or.inl rfl⟩
set_option maxRecDepth 100000 in
theorem mw_370 : (.instanceMethod yX11_view : Cond) ∈ WA := inB_11 (List.mem_of_getElem? (i := 18) rfl)
set_option maxRecDepth 100000 in
theorem ml_370 : (.instanceMethod yX11_view : Cond) ∈ lw_tbl ∧ (((.instanceMethod yX11_view : Cond).onTables && (.instanceMethod yX11_view : Cond).keeps) = true ∨ ∃ ty, (.instanceMethod yX11_view : Cond) = .arrayClass ty) := ⟨in_t13 (List.mem_of_getElem? (i := 4) rfl), Or.inl rfl⟩
set_option maxRecDepth 100000 in
theorem mw_371 : (.selects RX11 yX11_view yX11_view : Cond) ∈ WA := inB_11 (List.mem_of_getElem? (i := 19) rfl)
set_option maxRecDepth 100000 in
theorem ml_371 : (.selects RX11 yX11_view yX11_view : Cond) ∈ lw_tbl ∧ (((.selects RX11 yX11_view yX11_view : Cond).onTables && (.selects RX11 yX11_view yX11_view : Cond).keeps) = true ∨ ∃ ty, (.selects RX11 yX11_view yX11_view : Cond) = .arrayClass ty) := ⟨in_t13 (List.mem_of_getElem? (i := 5) rfl), Or.inl rfl⟩
set_option maxRecDepth 100000 in
theorem mw_372 : (.code yX10_viewed cX10_viewed 1 (some .int) : Cond) ∈ WA := inB_11 (List.mem_of_getElem? (i := 20) rfl)
set_option maxRecDepth 100000 in
theorem ml_372 : (.code yX10_viewed cX10_viewed 1 (some .int) : Cond) ∈ lw_tbl ∧ (((.code yX10_viewed cX10_viewed 1 (some .int) : Cond).onTables && (.code yX10_viewed cX10_viewed 1 (some .int) : Cond).keeps) = true ∨ ∃ ty, (.code yX10_viewed cX10_viewed 1 (some .int) : Cond) = .arrayClass ty) := ⟨in_t8 (List.mem_of_getElem? (i := 79) rfl), Or.inl rfl⟩
set_option maxRecDepth 100000 in
theorem mw_373 : (.methodLink RX10 213 yX10_viewed : Cond) ∈ WA := inB_11 (List.mem_of_getElem? (i := 21) rfl)
set_option maxRecDepth 100000 in
theorem ml_373 : (.methodLink RX10 213 yX10_viewed : Cond) ∈ lw_tbl ∧ (((.methodLink RX10 213 yX10_viewed : Cond).onTables && (.methodLink RX10 213 yX10_viewed : Cond).keeps) = true ∨ ∃ ty, (.methodLink RX10 213 yX10_viewed : Cond) = .arrayClass ty) := ⟨in_t8 (List.mem_of_getElem? (i := 76) rfl), Or.inl rfl⟩
set_option maxRecDepth 100000 in
theorem mw_374 : (.instanceMethod yX10_viewed : Cond) ∈ WA := inB_11 (List.mem_of_getElem? (i := 22) rfl)
set_option maxRecDepth 100000 in
theorem ml_374 : (.instanceMethod yX10_viewed : Cond) ∈ lw_tbl ∧ (((.instanceMethod yX10_viewed : Cond).onTables && (.instanceMethod yX10_viewed : Cond).keeps) = true ∨ ∃ ty, (.instanceMethod yX10_viewed : Cond) = .arrayClass ty) := ⟨in_t8 (List.mem_of_getElem? (i := 78) rfl), Or.inl rfl⟩
set_option maxRecDepth 100000 in
theorem mw_375 : (.selects RX10 yX10_viewed yX10_viewed : Cond) ∈ WA := inB_11 (List.mem_of_getElem? (i := 23) rfl)
set_option maxRecDepth 100000 in
theorem ml_375 : (.selects RX10 yX10_viewed yX10_viewed : Cond) ∈ lw_tbl ∧ (((.selects RX10 yX10_viewed yX10_viewed : Cond).onTables && (.selects RX10 yX10_viewed yX10_viewed : Cond).keeps) = true ∨ ∃ ty, (.selects RX10 yX10_viewed yX10_viewed : Cond) = .arrayClass ty) := ⟨in_p15 (q := (yX10_viewed, 11)) (List.mem_of_getElem? (i := 6) rfl), Or.inl rfl⟩
set_option maxRecDepth 100000 in
theorem mw_376 : (.code yX10_into cX10_into 3 (some .int) : Cond) ∈ WA := inB_11 (List.mem_of_getElem? (i := 24) rfl)
set_option maxRecDepth 100000 in
theorem ml_376 : (.code yX10_into cX10_into 3 (some .int) : Cond) ∈ lw_tbl ∧ (((.code yX10_into cX10_into 3 (some .int) : Cond).onTables && (.code yX10_into cX10_into 3 (some .int) : Cond).keeps) = true ∨ ∃ ty, (.code yX10_into cX10_into 3 (some .int) : Cond) = .arrayClass ty) := ⟨in_t8 (List.mem_of_getElem? (i := 75) rfl), Or.inl rfl⟩
set_option maxRecDepth 100000 in
theorem mw_377 : (.methodLink RL 48 yX10_into : Cond) ∈ WA := inB_11 (List.mem_of_getElem? (i := 25) rfl)
set_option maxRecDepth 100000 in
theorem ml_377 : (.methodLink RL 48 yX10_into : Cond) ∈ lw_tbl ∧ (((.methodLink RL 48 yX10_into : Cond).onTables && (.methodLink RL 48 yX10_into : Cond).keeps) = true ∨ ∃ ty, (.methodLink RL 48 yX10_into : Cond) = .arrayClass ty) := ⟨in_t8 (List.mem_of_getElem? (i := 72) rfl), Or.inl rfl⟩
set_option maxRecDepth 100000 in
theorem mw_378 : (.instanceMethod yX10_into : Cond) ∈ WA := inB_11 (List.mem_of_getElem? (i := 26) rfl)
set_option maxRecDepth 100000 in
theorem ml_378 : (.instanceMethod yX10_into : Cond) ∈ lw_tbl ∧ (((.instanceMethod yX10_into : Cond).onTables && (.instanceMethod yX10_into : Cond).keeps) = true ∨ ∃ ty, (.instanceMethod yX10_into : Cond) = .arrayClass ty) := ⟨in_t8 (List.mem_of_getElem? (i := 73) rfl), Or.inl rfl⟩
set_option maxRecDepth 100000 in
theorem mw_379 : (.selects RX10 yX10_into yX10_into : Cond) ∈ WA := inB_11 (List.mem_of_getElem? (i := 27) rfl)
set_option maxRecDepth 100000 in
theorem ml_379 : (.selects RX10 yX10_into yX10_into : Cond) ∈ lw_tbl ∧ (((.selects RX10 yX10_into yX10_into : Cond).onTables && (.selects RX10 yX10_into yX10_into : Cond).keeps) = true ∨ ∃ ty, (.selects RX10 yX10_into yX10_into : Cond) = .arrayClass ty) := ⟨in_t8 (List.mem_of_getElem? (i := 74) rfl), Or.inl rfl⟩
set_option maxRecDepth 100000 in
theorem mw_380 : (.code yX11_into cX11_into 2 (some .int) : Cond) ∈ WA := inB_11 (List.mem_of_getElem? (i := 28) rfl)
set_option maxRecDepth 100000 in
theorem ml_380 : (.code yX11_into cX11_into 2 (some .int) : Cond) ∈ lw_tbl ∧ (((.code yX11_into cX11_into 2 (some .int) : Cond).onTables && (.code yX11_into cX11_into 2 (some .int) : Cond).keeps) = true ∨ ∃ ty, (.code yX11_into cX11_into 2 (some .int) : Cond) = .arrayClass ty) := ⟨in_t13 (List.mem_of_getElem? (i := 14) rfl), Or.inl rfl⟩
set_option maxRecDepth 100000 in
theorem mw_381 : (.methodLink RL 51 yX11_into : Cond) ∈ WA := inB_11 (List.mem_of_getElem? (i := 29) rfl)
set_option maxRecDepth 100000 in
theorem ml_381 : (.methodLink RL 51 yX11_into : Cond) ∈ lw_tbl ∧ (((.methodLink RL 51 yX11_into : Cond).onTables && (.methodLink RL 51 yX11_into : Cond).keeps) = true ∨ ∃ ty, (.methodLink RL 51 yX11_into : Cond) = .arrayClass ty) := ⟨in_t13 (List.mem_of_getElem? (i := 11) rfl), Or.inl rfl⟩
set_option maxRecDepth 100000 in
theorem mw_382 : (.instanceMethod yX11_into : Cond) ∈ WA := inB_11 (List.mem_of_getElem? (i := 30) rfl)
set_option maxRecDepth 100000 in
theorem ml_382 : (.instanceMethod yX11_into : Cond) ∈ lw_tbl ∧ (((.instanceMethod yX11_into : Cond).onTables && (.instanceMethod yX11_into : Cond).keeps) = true ∨ ∃ ty, (.instanceMethod yX11_into : Cond) = .arrayClass ty) := ⟨in_t13 (List.mem_of_getElem? (i := 12) rfl), Or.inl rfl⟩
set_option maxRecDepth 100000 in
theorem mw_383 : (.selects RX11 yX11_into yX11_into : Cond) ∈ WA := inB_11 (List.mem_of_getElem? (i := 31) rfl)
set_option maxRecDepth 100000 in
theorem ml_383 : (.selects RX11 yX11_into yX11_into : Cond) ∈ lw_tbl ∧ (((.selects RX11 yX11_into yX11_into : Cond).onTables && (.selects RX11 yX11_into yX11_into : Cond).keeps) = true ∨ ∃ ty, (.selects RX11 yX11_into yX11_into : Cond) = .arrayClass ty) := ⟨in_t13 (List.mem_of_getElem? (i := 13) rfl), Or.inl rfl⟩
set_option maxRecDepth 100000 in
theorem mw_384 : (.code yX10_back cX10_back 1 (some .int) : Cond) ∈ WA := inB_12 (List.mem_of_getElem? (i := 0) rfl)
set_option maxRecDepth 100000 in
theorem ml_384 : (.code yX10_back cX10_back 1 (some .int) : Cond) ∈ lw_tbl ∧ (((.code yX10_back cX10_back 1 (some .int) : Cond).onTables && (.code yX10_back cX10_back 1 (some .int) : Cond).keeps) = true ∨ ∃ ty, (.code yX10_back cX10_back 1 (some .int) : Cond) = .arrayClass ty) := ⟨in_t8 (List.mem_of_getElem? (i := 86) rfl), Or.inl rfl⟩
set_option maxRecDepth 100000 in
theorem mw_385 : (.methodLink RL 52 yX10_back : Cond) ∈ WA := inB_12 (List.mem_of_getElem? (i := 1) rfl)
set_option maxRecDepth 100000 in
theorem ml_385 : (.methodLink RL 52 yX10_back : Cond) ∈ lw_tbl ∧ (((.methodLink RL 52 yX10_back : Cond).onTables && (.methodLink RL 52 yX10_back : Cond).keeps) = true ∨ ∃ ty, (.methodLink RL 52 yX10_back : Cond) = .arrayClass ty) := ⟨in_t8 (List.mem_of_getElem? (i := 83) rfl), Or.inl rfl⟩
set_option maxRecDepth 100000 in
theorem mw_386 : (.instanceMethod yX10_back : Cond) ∈ WA := inB_12 (List.mem_of_getElem? (i := 2) rfl)
set_option maxRecDepth 100000 in
theorem ml_386 : (.instanceMethod yX10_back : Cond) ∈ lw_tbl ∧ (((.instanceMethod yX10_back : Cond).onTables && (.instanceMethod yX10_back : Cond).keeps) = true ∨ ∃ ty, (.instanceMethod yX10_back : Cond) = .arrayClass ty) := ⟨in_t8 (List.mem_of_getElem? (i := 84) rfl), Or.inl rfl⟩
set_option maxRecDepth 100000 in
theorem mw_387 : (.selects RX10 yX10_back yX10_back : Cond) ∈ WA := inB_12 (List.mem_of_getElem? (i := 3) rfl)
set_option maxRecDepth 100000 in
theorem ml_387 : (.selects RX10 yX10_back yX10_back : Cond) ∈ lw_tbl ∧ (((.selects RX10 yX10_back yX10_back : Cond).onTables && (.selects RX10 yX10_back yX10_back : Cond).keeps) = true ∨ ∃ ty, (.selects RX10 yX10_back yX10_back : Cond) = .arrayClass ty) := ⟨in_t8 (List.mem_of_getElem? (i := 85) rfl), Or.inl rfl⟩
set_option maxRecDepth 100000 in
theorem mw_388 : (.code yX11_back cX11_back 1 (some .int) : Cond) ∈ WA := inB_12 (List.mem_of_getElem? (i := 4) rfl)
set_option maxRecDepth 100000 in
theorem ml_388 : (.code yX11_back cX11_back 1 (some .int) : Cond) ∈ lw_tbl ∧ (((.code yX11_back cX11_back 1 (some .int) : Cond).onTables && (.code yX11_back cX11_back 1 (some .int) : Cond).keeps) = true ∨ ∃ ty, (.code yX11_back cX11_back 1 (some .int) : Cond) = .arrayClass ty) := ⟨in_t13 (List.mem_of_getElem? (i := 22) rfl), Or.inl rfl⟩
set_option maxRecDepth 100000 in
theorem mw_389 : (.methodLink RL 55 yX11_back : Cond) ∈ WA := inB_12 (List.mem_of_getElem? (i := 5) rfl)
set_option maxRecDepth 100000 in
theorem ml_389 : (.methodLink RL 55 yX11_back : Cond) ∈ lw_tbl ∧ (((.methodLink RL 55 yX11_back : Cond).onTables && (.methodLink RL 55 yX11_back : Cond).keeps) = true ∨ ∃ ty, (.methodLink RL 55 yX11_back : Cond) = .arrayClass ty) := ⟨in_t13 (List.mem_of_getElem? (i := 19) rfl), Or.inl rfl⟩
set_option maxRecDepth 100000 in
theorem mw_390 : (.instanceMethod yX11_back : Cond) ∈ WA := inB_12 (List.mem_of_getElem? (i := 6) rfl)
set_option maxRecDepth 100000 in
theorem ml_390 : (.instanceMethod yX11_back : Cond) ∈ lw_tbl ∧ (((.instanceMethod yX11_back : Cond).onTables && (.instanceMethod yX11_back : Cond).keeps) = true ∨ ∃ ty, (.instanceMethod yX11_back : Cond) = .arrayClass ty) := ⟨in_t13 (List.mem_of_getElem? (i := 20) rfl), Or.inl rfl⟩
set_option maxRecDepth 100000 in
theorem mw_391 : (.selects RX11 yX11_back yX11_back : Cond) ∈ WA := inB_12 (List.mem_of_getElem? (i := 7) rfl)
set_option maxRecDepth 100000 in
theorem ml_391 : (.selects RX11 yX11_back yX11_back : Cond) ∈ lw_tbl ∧ (((.selects RX11 yX11_back yX11_back : Cond).onTables && (.selects RX11 yX11_back yX11_back : Cond).keeps) = true ∨ ∃ ty, (.selects RX11 yX11_back yX11_back : Cond) = .arrayClass ty) := ⟨in_t13 (List.mem_of_getElem? (i := 21) rfl), Or.inl rfl⟩
set_option maxRecDepth 100000 in
theorem mw_392 : (.code yX10_about cX10_about 3 (some .int) : Cond) ∈ WA := inB_12 (List.mem_of_getElem? (i := 8) rfl)
set_option maxRecDepth 100000 in
theorem ml_392 : (.code yX10_about cX10_about 3 (some .int) : Cond) ∈ lw_tbl ∧ (((.code yX10_about cX10_about 3 (some .int) : Cond).onTables && (.code yX10_about cX10_about 3 (some .int) : Cond).keeps) = true ∨ ∃ ty, (.code yX10_about cX10_about 3 (some .int) : Cond) = .arrayClass ty) := ⟨in_t8 (List.mem_of_getElem? (i := 90) rfl), Or.inl rfl⟩
set_option maxRecDepth 100000 in
theorem mw_393 : (.methodLink RL 56 yX10_about : Cond) ∈ WA := inB_12 (List.mem_of_getElem? (i := 9) rfl)
set_option maxRecDepth 100000 in
theorem ml_393 : (.methodLink RL 56 yX10_about : Cond) ∈ lw_tbl ∧ (((.methodLink RL 56 yX10_about : Cond).onTables && (.methodLink RL 56 yX10_about : Cond).keeps) = true ∨ ∃ ty, (.methodLink RL 56 yX10_about : Cond) = .arrayClass ty) := ⟨in_t8 (List.mem_of_getElem? (i := 87) rfl), Or.inl rfl⟩
set_option maxRecDepth 100000 in
theorem mw_394 : (.instanceMethod yX10_about : Cond) ∈ WA := inB_12 (List.mem_of_getElem? (i := 10) rfl)
set_option maxRecDepth 100000 in
theorem ml_394 : (.instanceMethod yX10_about : Cond) ∈ lw_tbl ∧ (((.instanceMethod yX10_about : Cond).onTables && (.instanceMethod yX10_about : Cond).keeps) = true ∨ ∃ ty, (.instanceMethod yX10_about : Cond) = .arrayClass ty) := ⟨in_t8 (List.mem_of_getElem? (i := 88) rfl), Or.inl rfl⟩
set_option maxRecDepth 100000 in
theorem mw_395 : (.selects RX10 yX10_about yX10_about : Cond) ∈ WA := inB_12 (List.mem_of_getElem? (i := 11) rfl)
set_option maxRecDepth 100000 in
theorem ml_395 : (.selects RX10 yX10_about yX10_about : Cond) ∈ lw_tbl ∧ (((.selects RX10 yX10_about yX10_about : Cond).onTables && (.selects RX10 yX10_about yX10_about : Cond).keeps) = true ∨ ∃ ty, (.selects RX10 yX10_about yX10_about : Cond) = .arrayClass ty) := ⟨in_t8 (List.mem_of_getElem? (i := 89) rfl), Or.inl rfl⟩
set_option maxRecDepth 100000 in
theorem mw_396 : (.code yX11_about cX11_about 2 (some .int) : Cond) ∈ WA := inB_12 (List.mem_of_getElem? (i := 12) rfl)
set_option maxRecDepth 100000 in
theorem ml_396 : (.code yX11_about cX11_about 2 (some .int) : Cond) ∈ lw_tbl ∧ (((.code yX11_about cX11_about 2 (some .int) : Cond).onTables && (.code yX11_about cX11_about 2 (some .int) : Cond).keeps) = true ∨ ∃ ty, (.code yX11_about cX11_about 2 (some .int) : Cond) = .arrayClass ty) := ⟨in_t13 (List.mem_of_getElem? (i := 26) rfl), Or.inl rfl⟩
set_option maxRecDepth 100000 in
theorem mw_397 : (.methodLink RL 59 yX11_about : Cond) ∈ WA := inB_12 (List.mem_of_getElem? (i := 13) rfl)
set_option maxRecDepth 100000 in
theorem ml_397 : (.methodLink RL 59 yX11_about : Cond) ∈ lw_tbl ∧ (((.methodLink RL 59 yX11_about : Cond).onTables && (.methodLink RL 59 yX11_about : Cond).keeps) = true ∨ ∃ ty, (.methodLink RL 59 yX11_about : Cond) = .arrayClass ty) := ⟨in_t13 (List.mem_of_getElem? (i := 23) rfl), Or.inl rfl⟩
set_option maxRecDepth 100000 in
theorem mw_398 : (.instanceMethod yX11_about : Cond) ∈ WA := inB_12 (List.mem_of_getElem? (i := 14) rfl)
set_option maxRecDepth 100000 in
theorem ml_398 : (.instanceMethod yX11_about : Cond) ∈ lw_tbl ∧ (((.instanceMethod yX11_about : Cond).onTables && (.instanceMethod yX11_about : Cond).keeps) = true ∨ ∃ ty, (.instanceMethod yX11_about : Cond) = .arrayClass ty) := ⟨in_t13 (List.mem_of_getElem? (i := 24) rfl), Or.inl rfl⟩
set_option maxRecDepth 100000 in
theorem mw_399 : (.selects RX11 yX11_about yX11_about : Cond) ∈ WA := inB_12 (List.mem_of_getElem? (i := 15) rfl)
set_option maxRecDepth 100000 in
theorem ml_399 : (.selects RX11 yX11_about yX11_about : Cond) ∈ lw_tbl ∧ (((.selects RX11 yX11_about yX11_about : Cond).onTables && (.selects RX11 yX11_about yX11_about : Cond).keeps) = true ∨ ∃ ty, (.selects RX11 yX11_about yX11_about : Cond) = .arrayClass ty) := ⟨in_t13 (List.mem_of_getElem? (i := 25) rfl), Or.inl rfl⟩
set_option maxRecDepth 100000 in
theorem mw_400 : (.code yX10_extent cX10_extent 3 (some .int) : Cond) ∈ WA := inB_12 (List.mem_of_getElem? (i := 16) rfl)
set_option maxRecDepth 100000 in
theorem ml_400 : (.code yX10_extent cX10_extent 3 (some .int) : Cond) ∈ lw_tbl ∧ (((.code yX10_extent cX10_extent 3 (some .int) : Cond).onTables && (.code yX10_extent cX10_extent 3 (some .int) : Cond).keeps) = true ∨ ∃ ty, (.code yX10_extent cX10_extent 3 (some .int) : Cond) = .arrayClass ty) := ⟨in_t8 (List.mem_of_getElem? (i := 104) rfl), Or.inl rfl⟩
set_option maxRecDepth 100000 in
theorem mw_401 : (.methodLink RL 60 yX10_extent : Cond) ∈ WA := inB_12 (List.mem_of_getElem? (i := 17) rfl)
set_option maxRecDepth 100000 in
theorem ml_401 : (.methodLink RL 60 yX10_extent : Cond) ∈ lw_tbl ∧ (((.methodLink RL 60 yX10_extent : Cond).onTables && (.methodLink RL 60 yX10_extent : Cond).keeps) = true ∨ ∃ ty, (.methodLink RL 60 yX10_extent : Cond) = .arrayClass ty) := ⟨in_t8 (List.mem_of_getElem? (i := 101) rfl), Or.inl rfl⟩
set_option maxRecDepth 100000 in
theorem mw_402 : (.instanceMethod yX10_extent : Cond) ∈ WA := inB_12 (List.mem_of_getElem? (i := 18) rfl)
set_option maxRecDepth 100000 in
theorem ml_402 : (.instanceMethod yX10_extent : Cond) ∈ lw_tbl ∧ (((.instanceMethod yX10_extent : Cond).onTables && (.instanceMethod yX10_extent : Cond).keeps) = true ∨ ∃ ty, (.instanceMethod yX10_extent : Cond) = .arrayClass ty) := ⟨in_t8 (List.mem_of_getElem? (i := 102) rfl), Or.inl rfl⟩
set_option maxRecDepth 100000 in
theorem mw_403 : (.selects RX10 yX10_extent yX10_extent : Cond) ∈ WA := inB_12 (List.mem_of_getElem? (i := 19) rfl)
set_option maxRecDepth 100000 in
theorem ml_403 : (.selects RX10 yX10_extent yX10_extent : Cond) ∈ lw_tbl ∧ (((.selects RX10 yX10_extent yX10_extent : Cond).onTables && (.selects RX10 yX10_extent yX10_extent : Cond).keeps) = true ∨ ∃ ty, (.selects RX10 yX10_extent yX10_extent : Cond) = .arrayClass ty) := ⟨in_t8 (List.mem_of_getElem? (i := 103) rfl), Or.inl rfl⟩
set_option maxRecDepth 100000 in
theorem mw_404 : (.code yX11_extent_ cX11_extent_ 2 (some .int) : Cond) ∈ WA := inB_12 (List.mem_of_getElem? (i := 20) rfl)
set_option maxRecDepth 100000 in
theorem ml_404 : (.code yX11_extent_ cX11_extent_ 2 (some .int) : Cond) ∈ lw_tbl ∧ (((.code yX11_extent_ cX11_extent_ 2 (some .int) : Cond).onTables && (.code yX11_extent_ cX11_extent_ 2 (some .int) : Cond).keeps) = true ∨ ∃ ty, (.code yX11_extent_ cX11_extent_ 2 (some .int) : Cond) = .arrayClass ty) := ⟨in_t13 (List.mem_of_getElem? (i := 35) rfl), Or.inl rfl⟩
set_option maxRecDepth 100000 in
theorem mw_405 : (.methodLink RL 63 yX11_extent_ : Cond) ∈ WA := inB_12 (List.mem_of_getElem? (i := 21) rfl)
set_option maxRecDepth 100000 in
theorem ml_405 : (.methodLink RL 63 yX11_extent_ : Cond) ∈ lw_tbl ∧ (((.methodLink RL 63 yX11_extent_ : Cond).onTables && (.methodLink RL 63 yX11_extent_ : Cond).keeps) = true ∨ ∃ ty, (.methodLink RL 63 yX11_extent_ : Cond) = .arrayClass ty) := ⟨in_t13 (List.mem_of_getElem? (i := 32) rfl), Or.inl rfl⟩
set_option maxRecDepth 100000 in
theorem mw_406 : (.instanceMethod yX11_extent_ : Cond) ∈ WA := inB_12 (List.mem_of_getElem? (i := 22) rfl)
set_option maxRecDepth 100000 in
theorem ml_406 : (.instanceMethod yX11_extent_ : Cond) ∈ lw_tbl ∧ (((.instanceMethod yX11_extent_ : Cond).onTables && (.instanceMethod yX11_extent_ : Cond).keeps) = true ∨ ∃ ty, (.instanceMethod yX11_extent_ : Cond) = .arrayClass ty) := ⟨in_t13 (List.mem_of_getElem? (i := 33) rfl), Or.inl rfl⟩
set_option maxRecDepth 100000 in
theorem mw_407 : (.selects RX11 yX11_extent_ yX11_extent_ : Cond) ∈ WA := inB_12 (List.mem_of_getElem? (i := 23) rfl)
set_option maxRecDepth 100000 in
theorem ml_407 : (.selects RX11 yX11_extent_ yX11_extent_ : Cond) ∈ lw_tbl ∧ (((.selects RX11 yX11_extent_ yX11_extent_ : Cond).onTables && (.selects RX11 yX11_extent_ yX11_extent_ : Cond).keeps) = true ∨ ∃ ty, (.selects RX11 yX11_extent_ yX11_extent_ : Cond) = .arrayClass ty) := ⟨in_t13 (List.mem_of_getElem? (i := 34) rfl), Or.inl rfl⟩
set_option maxRecDepth 100000 in
theorem mw_408 : (.code yX10_kind cX10_kind 4 (some .int) : Cond) ∈ WA := inB_12 (List.mem_of_getElem? (i := 24) rfl)
set_option maxRecDepth 100000 in
theorem ml_408 : (.code yX10_kind cX10_kind 4 (some .int) : Cond) ∈ lw_tbl ∧ (((.code yX10_kind cX10_kind 4 (some .int) : Cond).onTables && (.code yX10_kind cX10_kind 4 (some .int) : Cond).keeps) = true ∨ ∃ ty, (.code yX10_kind cX10_kind 4 (some .int) : Cond) = .arrayClass ty) := ⟨in_t8 (List.mem_of_getElem? (i := 109) rfl), Or.inl rfl⟩
set_option maxRecDepth 100000 in
theorem mw_409 : (.methodLink RL 64 yX10_kind : Cond) ∈ WA := inB_12 (List.mem_of_getElem? (i := 25) rfl)
set_option maxRecDepth 100000 in
theorem ml_409 : (.methodLink RL 64 yX10_kind : Cond) ∈ lw_tbl ∧ (((.methodLink RL 64 yX10_kind : Cond).onTables && (.methodLink RL 64 yX10_kind : Cond).keeps) = true ∨ ∃ ty, (.methodLink RL 64 yX10_kind : Cond) = .arrayClass ty) := ⟨in_t8 (List.mem_of_getElem? (i := 106) rfl), Or.inl rfl⟩
set_option maxRecDepth 100000 in
theorem mw_410 : (.instanceMethod yX10_kind : Cond) ∈ WA := inB_12 (List.mem_of_getElem? (i := 26) rfl)
set_option maxRecDepth 100000 in
theorem ml_410 : (.instanceMethod yX10_kind : Cond) ∈ lw_tbl ∧ (((.instanceMethod yX10_kind : Cond).onTables && (.instanceMethod yX10_kind : Cond).keeps) = true ∨ ∃ ty, (.instanceMethod yX10_kind : Cond) = .arrayClass ty) := ⟨in_t8 (List.mem_of_getElem? (i := 107) rfl), Or.inl rfl⟩
set_option maxRecDepth 100000 in
theorem mw_411 : (.selects RX10 yX10_kind yX10_kind : Cond) ∈ WA := inB_12 (List.mem_of_getElem? (i := 27) rfl)
set_option maxRecDepth 100000 in
theorem ml_411 : (.selects RX10 yX10_kind yX10_kind : Cond) ∈ lw_tbl ∧ (((.selects RX10 yX10_kind yX10_kind : Cond).onTables && (.selects RX10 yX10_kind yX10_kind : Cond).keeps) = true ∨ ∃ ty, (.selects RX10 yX10_kind yX10_kind : Cond) = .arrayClass ty) := ⟨in_t8 (List.mem_of_getElem? (i := 108) rfl), Or.inl rfl⟩
set_option maxRecDepth 100000 in
theorem mw_412 : (.code yX11_viewed cX11_viewed 2 (some .boolean) : Cond) ∈ WA := inB_12 (List.mem_of_getElem? (i := 28) rfl)
set_option maxRecDepth 100000 in
theorem ml_412 : (.code yX11_viewed cX11_viewed 2 (some .boolean) : Cond) ∈ lw_tbl ∧ (((.code yX11_viewed cX11_viewed 2 (some .boolean) : Cond).onTables && (.code yX11_viewed cX11_viewed 2 (some .boolean) : Cond).keeps) = true ∨ ∃ ty, (.code yX11_viewed cX11_viewed 2 (some .boolean) : Cond) = .arrayClass ty) := ⟨in_t13 (List.mem_of_getElem? (i := 43) rfl), Or.inl rfl⟩
set_option maxRecDepth 100000 in
theorem mw_413 : (.methodLink RX11 949 yX11_viewed : Cond) ∈ WA := inB_12 (List.mem_of_getElem? (i := 29) rfl)
set_option maxRecDepth 100000 in
theorem ml_413 : (.methodLink RX11 949 yX11_viewed : Cond) ∈ lw_tbl ∧ (((.methodLink RX11 949 yX11_viewed : Cond).onTables && (.methodLink RX11 949 yX11_viewed : Cond).keeps) = true ∨ ∃ ty, (.methodLink RX11 949 yX11_viewed : Cond) = .arrayClass ty) := ⟨in_t13 (List.mem_of_getElem? (i := 40) rfl), Or.inl rfl⟩
set_option maxRecDepth 100000 in
theorem mw_414 : (.instanceMethod yX11_viewed : Cond) ∈ WA := inB_12 (List.mem_of_getElem? (i := 30) rfl)
set_option maxRecDepth 100000 in
theorem ml_414 : (.instanceMethod yX11_viewed : Cond) ∈ lw_tbl ∧ (((.instanceMethod yX11_viewed : Cond).onTables && (.instanceMethod yX11_viewed : Cond).keeps) = true ∨ ∃ ty, (.instanceMethod yX11_viewed : Cond) = .arrayClass ty) := ⟨in_t13 (List.mem_of_getElem? (i := 42) rfl), Or.inl rfl⟩
set_option maxRecDepth 100000 in
theorem mw_415 : (.selects RX11 yX11_viewed yX11_viewed : Cond) ∈ WA := inB_12 (List.mem_of_getElem? (i := 31) rfl)
set_option maxRecDepth 100000 in
theorem ml_415 : (.selects RX11 yX11_viewed yX11_viewed : Cond) ∈ lw_tbl ∧ (((.selects RX11 yX11_viewed yX11_viewed : Cond).onTables && (.selects RX11 yX11_viewed yX11_viewed : Cond).keeps) = true ∨ ∃ ty, (.selects RX11 yX11_viewed yX11_viewed : Cond) = .arrayClass ty) := ⟨in_p27 (q := (yX11_viewed, 76)) (List.mem_of_getElem? (i := 5) rfl), Or.inl rfl⟩
set_option maxRecDepth 100000 in
theorem mw_416 : (.code yX11_kind cX11_kind 2 (some .int) : Cond) ∈ WA := inB_13 (List.mem_of_getElem? (i := 0) rfl)
set_option maxRecDepth 100000 in
theorem ml_416 : (.code yX11_kind cX11_kind 2 (some .int) : Cond) ∈ lw_tbl ∧ (((.code yX11_kind cX11_kind 2 (some .int) : Cond).onTables && (.code yX11_kind cX11_kind 2 (some .int) : Cond).keeps) = true ∨ ∃ ty, (.code yX11_kind cX11_kind 2 (some .int) : Cond) = .arrayClass ty) := ⟨in_t13 (List.mem_of_getElem? (i := 39) rfl), Or.inl rfl⟩
set_option maxRecDepth 100000 in
theorem mw_417 : (.methodLink RL 67 yX11_kind : Cond) ∈ WA := inB_13 (List.mem_of_getElem? (i := 1) rfl)
set_option maxRecDepth 100000 in
theorem ml_417 : (.methodLink RL 67 yX11_kind : Cond) ∈ lw_tbl ∧ (((.methodLink RL 67 yX11_kind : Cond).onTables && (.methodLink RL 67 yX11_kind : Cond).keeps) = true ∨ ∃ ty, (.methodLink RL 67 yX11_kind : Cond) = .arrayClass ty) := ⟨in_t13 (List.mem_of_getElem? (i := 36) rfl), Or.inl rfl⟩
set_option maxRecDepth 100000 in
theorem mw_418 : (.instanceMethod yX11_kind : Cond) ∈ WA := inB_13 (List.mem_of_getElem? (i := 2) rfl)
set_option maxRecDepth 100000 in
theorem ml_418 : (.instanceMethod yX11_kind : Cond) ∈ lw_tbl ∧ (((.instanceMethod yX11_kind : Cond).onTables && (.instanceMethod yX11_kind : Cond).keeps) = true ∨ ∃ ty, (.instanceMethod yX11_kind : Cond) = .arrayClass ty) := ⟨in_t13 (List.mem_of_getElem? (i := 37) rfl), Or.inl rfl⟩
set_option maxRecDepth 100000 in
theorem mw_419 : (.selects RX11 yX11_kind yX11_kind : Cond) ∈ WA := inB_13 (List.mem_of_getElem? (i := 3) rfl)
set_option maxRecDepth 100000 in
theorem ml_419 : (.selects RX11 yX11_kind yX11_kind : Cond) ∈ lw_tbl ∧ (((.selects RX11 yX11_kind yX11_kind : Cond).onTables && (.selects RX11 yX11_kind yX11_kind : Cond).keeps) = true ∨ ∃ ty, (.selects RX11 yX11_kind yX11_kind : Cond) = .arrayClass ty) := ⟨in_t13 (List.mem_of_getElem? (i := 38) rfl), Or.inl rfl⟩
set_option maxRecDepth 100000 in
theorem mw_420 : (.code yX10_number cX10_number 7 (some .int) : Cond) ∈ WA := inB_13 (List.mem_of_getElem? (i := 4) rfl)
set_option maxRecDepth 100000 in
theorem ml_420 : (.code yX10_number cX10_number 7 (some .int) : Cond) ∈ lw_tbl ∧ (((.code yX10_number cX10_number 7 (some .int) : Cond).onTables && (.code yX10_number cX10_number 7 (some .int) : Cond).keeps) = true ∨ ∃ ty, (.code yX10_number cX10_number 7 (some .int) : Cond) = .arrayClass ty) := ⟨in_t8 (List.mem_of_getElem? (i := 114) rfl), Or.inl rfl⟩
set_option maxRecDepth 100000 in
theorem mw_421 : (.methodLink RL 68 yX10_number : Cond) ∈ WA := inB_13 (List.mem_of_getElem? (i := 5) rfl)
set_option maxRecDepth 100000 in
theorem ml_421 : (.methodLink RL 68 yX10_number : Cond) ∈ lw_tbl ∧ (((.methodLink RL 68 yX10_number : Cond).onTables && (.methodLink RL 68 yX10_number : Cond).keeps) = true ∨ ∃ ty, (.methodLink RL 68 yX10_number : Cond) = .arrayClass ty) := ⟨in_t8 (List.mem_of_getElem? (i := 111) rfl), Or.inl rfl⟩
set_option maxRecDepth 100000 in
theorem mw_422 : (.instanceMethod yX10_number : Cond) ∈ WA := inB_13 (List.mem_of_getElem? (i := 6) rfl)
set_option maxRecDepth 100000 in
theorem ml_422 : (.instanceMethod yX10_number : Cond) ∈ lw_tbl ∧ (((.instanceMethod yX10_number : Cond).onTables && (.instanceMethod yX10_number : Cond).keeps) = true ∨ ∃ ty, (.instanceMethod yX10_number : Cond) = .arrayClass ty) := ⟨in_t8 (List.mem_of_getElem? (i := 112) rfl), Or.inl rfl⟩
set_option maxRecDepth 100000 in
theorem mw_423 : (.selects RX10 yX10_number yX10_number : Cond) ∈ WA := inB_13 (List.mem_of_getElem? (i := 7) rfl)
set_option maxRecDepth 100000 in
theorem ml_423 : (.selects RX10 yX10_number yX10_number : Cond) ∈ lw_tbl ∧ (((.selects RX10 yX10_number yX10_number : Cond).onTables && (.selects RX10 yX10_number yX10_number : Cond).keeps) = true ∨ ∃ ty, (.selects RX10 yX10_number yX10_number : Cond) = .arrayClass ty) := ⟨in_t8 (List.mem_of_getElem? (i := 113) rfl), Or.inl rfl⟩
set_option maxRecDepth 100000 in
theorem mw_424 : (.code yX11_number_ cX11_number_ 3 (some .int) : Cond) ∈ WA := inB_13 (List.mem_of_getElem? (i := 8) rfl)
set_option maxRecDepth 100000 in
theorem ml_424 : (.code yX11_number_ cX11_number_ 3 (some .int) : Cond) ∈ lw_tbl ∧ (((.code yX11_number_ cX11_number_ 3 (some .int) : Cond).onTables && (.code yX11_number_ cX11_number_ 3 (some .int) : Cond).keeps) = true ∨ ∃ ty, (.code yX11_number_ cX11_number_ 3 (some .int) : Cond) = .arrayClass ty) := ⟨in_t13 (List.mem_of_getElem? (i := 47) rfl), Or.inl rfl⟩
set_option maxRecDepth 100000 in
theorem mw_425 : (.methodLink RL 72 yX11_number_ : Cond) ∈ WA := inB_13 (List.mem_of_getElem? (i := 9) rfl)
set_option maxRecDepth 100000 in
theorem ml_425 : (.methodLink RL 72 yX11_number_ : Cond) ∈ lw_tbl ∧ (((.methodLink RL 72 yX11_number_ : Cond).onTables && (.methodLink RL 72 yX11_number_ : Cond).keeps) = true ∨ ∃ ty, (.methodLink RL 72 yX11_number_ : Cond) = .arrayClass ty) := ⟨in_t13 (List.mem_of_getElem? (i := 44) rfl), Or.inl rfl⟩
set_option maxRecDepth 100000 in
theorem mw_426 : (.instanceMethod yX11_number_ : Cond) ∈ WA := inB_13 (List.mem_of_getElem? (i := 10) rfl)
set_option maxRecDepth 100000 in
theorem ml_426 : (.instanceMethod yX11_number_ : Cond) ∈ lw_tbl ∧ (((.instanceMethod yX11_number_ : Cond).onTables && (.instanceMethod yX11_number_ : Cond).keeps) = true ∨ ∃ ty, (.instanceMethod yX11_number_ : Cond) = .arrayClass ty) := ⟨in_t13 (List.mem_of_getElem? (i := 45) rfl), Or.inl rfl⟩
set_option maxRecDepth 100000 in
theorem mw_427 : (.selects RX11 yX11_number_ yX11_number_ : Cond) ∈ WA := inB_13 (List.mem_of_getElem? (i := 11) rfl)
set_option maxRecDepth 100000 in
theorem ml_427 : (.selects RX11 yX11_number_ yX11_number_ : Cond) ∈ lw_tbl ∧ (((.selects RX11 yX11_number_ yX11_number_ : Cond).onTables && (.selects RX11 yX11_number_ yX11_number_ : Cond).keeps) = true ∨ ∃ ty, (.selects RX11 yX11_number_ yX11_number_ : Cond) = .arrayClass ty) := ⟨in_t13 (List.mem_of_getElem? (i := 46) rfl), Or.inl rfl⟩
set_option maxRecDepth 100000 in
theorem mw_428 : (.code yX10_meaning cX10_meaning 4 (some .int) : Cond) ∈ WA := inB_13 (List.mem_of_getElem? (i := 12) rfl)
set_option maxRecDepth 100000 in
theorem ml_428 : (.code yX10_meaning cX10_meaning 4 (some .int) : Cond) ∈ lw_tbl ∧ (((.code yX10_meaning cX10_meaning 4 (some .int) : Cond).onTables && (.code yX10_meaning cX10_meaning 4 (some .int) : Cond).keeps) = true ∨ ∃ ty, (.code yX10_meaning cX10_meaning 4 (some .int) : Cond) = .arrayClass ty) := ⟨in_t8 (List.mem_of_getElem? (i := 122) rfl), Or.inl rfl⟩
set_option maxRecDepth 100000 in
theorem mw_429 : (.methodLink RX10 241 yX10_meaning : Cond) ∈ WA := inB_13 (List.mem_of_getElem? (i := 13) rfl)
set_option maxRecDepth 100000 in
theorem ml_429 : (.methodLink RX10 241 yX10_meaning : Cond) ∈ lw_tbl ∧ (((.methodLink RX10 241 yX10_meaning : Cond).onTables && (.methodLink RX10 241 yX10_meaning : Cond).keeps) = true ∨ ∃ ty, (.methodLink RX10 241 yX10_meaning : Cond) = .arrayClass ty) := ⟨in_t8 (List.mem_of_getElem? (i := 119) rfl), Or.inl rfl⟩
set_option maxRecDepth 100000 in
theorem mw_430 : (.instanceMethod yX10_meaning : Cond) ∈ WA := inB_13 (List.mem_of_getElem? (i := 14) rfl)
set_option maxRecDepth 100000 in
theorem ml_430 : (.instanceMethod yX10_meaning : Cond) ∈ lw_tbl ∧ (((.instanceMethod yX10_meaning : Cond).onTables && (.instanceMethod yX10_meaning : Cond).keeps) = true ∨ ∃ ty, (.instanceMethod yX10_meaning : Cond) = .arrayClass ty) := ⟨in_t8 (List.mem_of_getElem? (i := 121) rfl), Or.inl rfl⟩
set_option maxRecDepth 100000 in
theorem mw_431 : (.selects RX10 yX10_meaning yX10_meaning : Cond) ∈ WA := inB_13 (List.mem_of_getElem? (i := 15) rfl)
set_option maxRecDepth 100000 in
theorem ml_431 : (.selects RX10 yX10_meaning yX10_meaning : Cond) ∈ lw_tbl ∧ (((.selects RX10 yX10_meaning yX10_meaning : Cond).onTables && (.selects RX10 yX10_meaning yX10_meaning : Cond).keeps) = true ∨ ∃ ty, (.selects RX10 yX10_meaning yX10_meaning : Cond) = .arrayClass ty) := ⟨in_p15 (q := (yX10_meaning, 11)) (List.mem_of_getElem? (i := 9) rfl), Or.inl rfl⟩
set_option maxRecDepth 100000 in
theorem mw_432 : (.code yX4_houseBytes cX4_houseBytes 3 (some .int) : Cond) ∈ WA := inB_13 (List.mem_of_getElem? (i := 16) rfl)
set_option maxRecDepth 100000 in
theorem ml_432 : (.code yX4_houseBytes cX4_houseBytes 3 (some .int) : Cond) ∈ lw_tbl ∧ (((.code yX4_houseBytes cX4_houseBytes 3 (some .int) : Cond).onTables && (.code yX4_houseBytes cX4_houseBytes 3 (some .int) : Cond).keeps) = true ∨ ∃ ty, (.code yX4_houseBytes cX4_houseBytes 3 (some .int) : Cond) = .arrayClass ty) := ⟨in_t5 (List.mem_of_getElem? (i := 67) rfl), Or.inl rfl⟩
set_option maxRecDepth 100000 in
theorem mw_433 : (.instanceMethod yX4_houseBytes : Cond) ∈ WA := inB_13 (List.mem_of_getElem? (i := 17) rfl)
set_option maxRecDepth 100000 in
theorem ml_433 : (.instanceMethod yX4_houseBytes : Cond) ∈ lw_tbl ∧ (((.instanceMethod yX4_houseBytes : Cond).onTables && (.instanceMethod yX4_houseBytes : Cond).keeps) = true ∨ ∃ ty, (.instanceMethod yX4_houseBytes : Cond) = .arrayClass ty) := ⟨in_t5 (List.mem_of_getElem? (i := 66) rfl), Or.inl rfl⟩
set_option maxRecDepth 100000 in
theorem mw_434 : (.selects RX4 yX4_houseBytes yX4_houseBytes : Cond) ∈ WA := inB_13 (List.mem_of_getElem? (i := 18) rfl)
set_option maxRecDepth 100000 in
theorem ml_434 : (.selects RX4 yX4_houseBytes yX4_houseBytes : Cond) ∈ lw_tbl ∧ (((.selects RX4 yX4_houseBytes yX4_houseBytes : Cond).onTables && (.selects RX4 yX4_houseBytes yX4_houseBytes : Cond).keeps) = true ∨ ∃ ty, (.selects RX4 yX4_houseBytes yX4_houseBytes : Cond) = .arrayClass ty) := ⟨in_p7 (q := (yX4_houseBytes, 13)) (List.mem_of_getElem? (i := 0) rfl), Or.inl rfl⟩
set_option maxRecDepth 100000 in
theorem mw_435 : (.code yX10_sizes cX10_sizes 3 (some .int) : Cond) ∈ WA := inB_13 (List.mem_of_getElem? (i := 19) rfl)
set_option maxRecDepth 100000 in
theorem ml_435 : (.code yX10_sizes cX10_sizes 3 (some .int) : Cond) ∈ lw_tbl ∧ (((.code yX10_sizes cX10_sizes 3 (some .int) : Cond).onTables && (.code yX10_sizes cX10_sizes 3 (some .int) : Cond).keeps) = true ∨ ∃ ty, (.code yX10_sizes cX10_sizes 3 (some .int) : Cond) = .arrayClass ty) := ⟨in_t8 (List.mem_of_getElem? (i := 127) rfl), Or.inl rfl⟩
set_option maxRecDepth 100000 in
theorem mw_436 : (.methodLink RX10 247 yX10_sizes : Cond) ∈ WA := inB_13 (List.mem_of_getElem? (i := 20) rfl)
set_option maxRecDepth 100000 in
theorem ml_436 : (.methodLink RX10 247 yX10_sizes : Cond) ∈ lw_tbl ∧ (((.methodLink RX10 247 yX10_sizes : Cond).onTables && (.methodLink RX10 247 yX10_sizes : Cond).keeps) = true ∨ ∃ ty, (.methodLink RX10 247 yX10_sizes : Cond) = .arrayClass ty) := ⟨in_t8 (List.mem_of_getElem? (i := 124) rfl), Or.inl rfl⟩
set_option maxRecDepth 100000 in
theorem mw_437 : (.instanceMethod yX10_sizes : Cond) ∈ WA := inB_13 (List.mem_of_getElem? (i := 21) rfl)
set_option maxRecDepth 100000 in
theorem ml_437 : (.instanceMethod yX10_sizes : Cond) ∈ lw_tbl ∧ (((.instanceMethod yX10_sizes : Cond).onTables && (.instanceMethod yX10_sizes : Cond).keeps) = true ∨ ∃ ty, (.instanceMethod yX10_sizes : Cond) = .arrayClass ty) := ⟨in_t8 (List.mem_of_getElem? (i := 126) rfl), Or.inl rfl⟩
set_option maxRecDepth 100000 in
theorem mw_438 : (.selects RX10 yX10_sizes yX10_sizes : Cond) ∈ WA := inB_13 (List.mem_of_getElem? (i := 22) rfl)
set_option maxRecDepth 100000 in
theorem ml_438 : (.selects RX10 yX10_sizes yX10_sizes : Cond) ∈ lw_tbl ∧ (((.selects RX10 yX10_sizes yX10_sizes : Cond).onTables && (.selects RX10 yX10_sizes yX10_sizes : Cond).keeps) = true ∨ ∃ ty, (.selects RX10 yX10_sizes yX10_sizes : Cond) = .arrayClass ty) := ⟨in_p15 (q := (yX10_sizes, 11)) (List.mem_of_getElem? (i := 10) rfl), Or.inl rfl⟩
set_option maxRecDepth 100000 in
theorem mw_439 : (.code yX10_told cX10_told 2 (some .int) : Cond) ∈ WA := inB_13 (List.mem_of_getElem? (i := 23) rfl)
set_option maxRecDepth 100000 in
theorem ml_439 : (.code yX10_told cX10_told 2 (some .int) : Cond) ∈ lw_tbl ∧ (((.code yX10_told cX10_told 2 (some .int) : Cond).onTables && (.code yX10_told cX10_told 2 (some .int) : Cond).keeps) = true ∨ ∃ ty, (.code yX10_told cX10_told 2 (some .int) : Cond) = .arrayClass ty) := ⟨in_t8 (List.mem_of_getElem? (i := 118) rfl), Or.inl rfl⟩
set_option maxRecDepth 100000 in
theorem mw_440 : (.methodLink RL 73 yX10_told : Cond) ∈ WA := inB_13 (List.mem_of_getElem? (i := 24) rfl)
set_option maxRecDepth 100000 in
theorem ml_440 : (.methodLink RL 73 yX10_told : Cond) ∈ lw_tbl ∧ (((.methodLink RL 73 yX10_told : Cond).onTables && (.methodLink RL 73 yX10_told : Cond).keeps) = true ∨ ∃ ty, (.methodLink RL 73 yX10_told : Cond) = .arrayClass ty) := ⟨in_t8 (List.mem_of_getElem? (i := 115) rfl), Or.inl rfl⟩
set_option maxRecDepth 100000 in
theorem mw_441 : (.instanceMethod yX10_told : Cond) ∈ WA := inB_13 (List.mem_of_getElem? (i := 25) rfl)
set_option maxRecDepth 100000 in
theorem ml_441 : (.instanceMethod yX10_told : Cond) ∈ lw_tbl ∧ (((.instanceMethod yX10_told : Cond).onTables && (.instanceMethod yX10_told : Cond).keeps) = true ∨ ∃ ty, (.instanceMethod yX10_told : Cond) = .arrayClass ty) := ⟨in_t8 (List.mem_of_getElem? (i := 116) rfl), Or.inl rfl⟩
set_option maxRecDepth 100000 in
theorem mw_442 : (.selects RX10 yX10_told yX10_told : Cond) ∈ WA := inB_13 (List.mem_of_getElem? (i := 26) rfl)
set_option maxRecDepth 100000 in
theorem ml_442 : (.selects RX10 yX10_told yX10_told : Cond) ∈ lw_tbl ∧ (((.selects RX10 yX10_told yX10_told : Cond).onTables && (.selects RX10 yX10_told yX10_told : Cond).keeps) = true ∨ ∃ ty, (.selects RX10 yX10_told yX10_told : Cond) = .arrayClass ty) := ⟨in_t8 (List.mem_of_getElem? (i := 117) rfl), Or.inl rfl⟩
set_option maxRecDepth 100000 in
theorem mw_443 : (.fieldLink RX11 674 "ArrayHouseModel" "textTop" "I" : Cond) ∈ WA := inB_13 (List.mem_of_getElem? (i := 27) rfl)
set_option maxRecDepth 100000 in
theorem ml_443 : (.fieldLink RX11 674 "ArrayHouseModel" "textTop" "I" : Cond) ∈ lw_tbl ∧ (((.fieldLink RX11 674 "ArrayHouseModel" "textTop" "I" : Cond).onTables && (.fieldLink RX11 674 "ArrayHouseModel" "textTop" "I" : Cond).keeps) = true ∨ ∃ ty, (.fieldLink RX11 674 "ArrayHouseModel" "textTop" "I" : Cond) = .arrayClass ty) := ⟨in_t8 (List.mem_of_getElem? (i := 192) rfl), Or.inl rfl⟩
set_option maxRecDepth 100000 in
theorem mw_444 : (.code yX11_told cX11_told 6 (some .int) : Cond) ∈ WA := inB_13 (List.mem_of_getElem? (i := 28) rfl)
set_option maxRecDepth 100000 in
theorem ml_444 : (.code yX11_told cX11_told 6 (some .int) : Cond) ∈ lw_tbl ∧ (((.code yX11_told cX11_told 6 (some .int) : Cond).onTables && (.code yX11_told cX11_told 6 (some .int) : Cond).keeps) = true ∨ ∃ ty, (.code yX11_told cX11_told 6 (some .int) : Cond) = .arrayClass ty) := ⟨in_t13 (List.mem_of_getElem? (i := 51) rfl), Or.inl rfl⟩
set_option maxRecDepth 100000 in
theorem mw_445 : (.methodLink RL 76 yX11_told : Cond) ∈ WA := inB_13 (List.mem_of_getElem? (i := 29) rfl)
set_option maxRecDepth 100000 in
theorem ml_445 : (.methodLink RL 76 yX11_told : Cond) ∈ lw_tbl ∧ (((.methodLink RL 76 yX11_told : Cond).onTables && (.methodLink RL 76 yX11_told : Cond).keeps) = true ∨ ∃ ty, (.methodLink RL 76 yX11_told : Cond) = .arrayClass ty) := ⟨in_t13 (List.mem_of_getElem? (i := 48) rfl), Or.inl rfl⟩
set_option maxRecDepth 100000 in
theorem mw_446 : (.instanceMethod yX11_told : Cond) ∈ WA := inB_13 (List.mem_of_getElem? (i := 30) rfl)
set_option maxRecDepth 100000 in
theorem ml_446 : (.instanceMethod yX11_told : Cond) ∈ lw_tbl ∧ (((.instanceMethod yX11_told : Cond).onTables && (.instanceMethod yX11_told : Cond).keeps) = true ∨ ∃ ty, (.instanceMethod yX11_told : Cond) = .arrayClass ty) := ⟨in_t13 (List.mem_of_getElem? (i := 49) rfl), Or.inl rfl⟩
set_option maxRecDepth 100000 in
theorem mw_447 : (.selects RX11 yX11_told yX11_told : Cond) ∈ WA := inB_13 (List.mem_of_getElem? (i := 31) rfl)
set_option maxRecDepth 100000 in
theorem ml_447 : (.selects RX11 yX11_told yX11_told : Cond) ∈ lw_tbl ∧ (((.selects RX11 yX11_told yX11_told : Cond).onTables && (.selects RX11 yX11_told yX11_told : Cond).keeps) = true ∨ ∃ ty, (.selects RX11 yX11_told yX11_told : Cond) = .arrayClass ty) := ⟨in_t13 (List.mem_of_getElem? (i := 50) rfl), Or.inl rfl⟩
set_option maxRecDepth 100000 in
theorem mw_448 : (.code yX10_forget cX10_forget 3 (some .int) : Cond) ∈ WA := inB_14 (List.mem_of_getElem? (i := 0) rfl)
set_option maxRecDepth 100000 in
theorem ml_448 : (.code yX10_forget cX10_forget 3 (some .int) : Cond) ∈ lw_tbl ∧ (((.code yX10_forget cX10_forget 3 (some .int) : Cond).onTables && (.code yX10_forget cX10_forget 3 (some .int) : Cond).keeps) = true ∨ ∃ ty, (.code yX10_forget cX10_forget 3 (some .int) : Cond) = .arrayClass ty) := ⟨in_t8 (List.mem_of_getElem? (i := 131) rfl), Or.inl rfl⟩
set_option maxRecDepth 100000 in
theorem mw_449 : (.methodLink RL 77 yX10_forget : Cond) ∈ WA := inB_14 (List.mem_of_getElem? (i := 1) rfl)
set_option maxRecDepth 100000 in
theorem ml_449 : (.methodLink RL 77 yX10_forget : Cond) ∈ lw_tbl ∧ (((.methodLink RL 77 yX10_forget : Cond).onTables && (.methodLink RL 77 yX10_forget : Cond).keeps) = true ∨ ∃ ty, (.methodLink RL 77 yX10_forget : Cond) = .arrayClass ty) := ⟨in_t8 (List.mem_of_getElem? (i := 128) rfl), Or.inl rfl⟩
set_option maxRecDepth 100000 in
theorem mw_450 : (.instanceMethod yX10_forget : Cond) ∈ WA := inB_14 (List.mem_of_getElem? (i := 2) rfl)
set_option maxRecDepth 100000 in
theorem ml_450 : (.instanceMethod yX10_forget : Cond) ∈ lw_tbl ∧ (((.instanceMethod yX10_forget : Cond).onTables && (.instanceMethod yX10_forget : Cond).keeps) = true ∨ ∃ ty, (.instanceMethod yX10_forget : Cond) = .arrayClass ty) := ⟨in_t8 (List.mem_of_getElem? (i := 129) rfl), Or.inl rfl⟩
set_option maxRecDepth 100000 in
theorem mw_451 : (.selects RX10 yX10_forget yX10_forget : Cond) ∈ WA := inB_14 (List.mem_of_getElem? (i := 3) rfl)
set_option maxRecDepth 100000 in
theorem ml_451 : (.selects RX10 yX10_forget yX10_forget : Cond) ∈ lw_tbl ∧ (((.selects RX10 yX10_forget yX10_forget : Cond).onTables && (.selects RX10 yX10_forget yX10_forget : Cond).keeps) = true ∨ ∃ ty, (.selects RX10 yX10_forget yX10_forget : Cond) = .arrayClass ty) := ⟨in_t8 (List.mem_of_getElem? (i := 130) rfl), Or.inl rfl⟩
set_option maxRecDepth 100000 in
theorem mw_452 : (.code yX11_forget cX11_forget 3 (some .int) : Cond) ∈ WA := inB_14 (List.mem_of_getElem? (i := 4) rfl)
set_option maxRecDepth 100000 in
theorem ml_452 : (.code yX11_forget cX11_forget 3 (some .int) : Cond) ∈ lw_tbl ∧ (((.code yX11_forget cX11_forget 3 (some .int) : Cond).onTables && (.code yX11_forget cX11_forget 3 (some .int) : Cond).keeps) = true ∨ ∃ ty, (.code yX11_forget cX11_forget 3 (some .int) : Cond) = .arrayClass ty) := ⟨in_t13 (List.mem_of_getElem? (i := 55) rfl), Or.inl rfl⟩
set_option maxRecDepth 100000 in
theorem mw_453 : (.methodLink RL 80 yX11_forget : Cond) ∈ WA := inB_14 (List.mem_of_getElem? (i := 5) rfl)
set_option maxRecDepth 100000 in
theorem ml_453 : (.methodLink RL 80 yX11_forget : Cond) ∈ lw_tbl ∧ (((.methodLink RL 80 yX11_forget : Cond).onTables && (.methodLink RL 80 yX11_forget : Cond).keeps) = true ∨ ∃ ty, (.methodLink RL 80 yX11_forget : Cond) = .arrayClass ty) := ⟨in_t13 (List.mem_of_getElem? (i := 52) rfl), Or.inl rfl⟩
set_option maxRecDepth 100000 in
theorem mw_454 : (.instanceMethod yX11_forget : Cond) ∈ WA := inB_14 (List.mem_of_getElem? (i := 6) rfl)
set_option maxRecDepth 100000 in
theorem ml_454 : (.instanceMethod yX11_forget : Cond) ∈ lw_tbl ∧ (((.instanceMethod yX11_forget : Cond).onTables && (.instanceMethod yX11_forget : Cond).keeps) = true ∨ ∃ ty, (.instanceMethod yX11_forget : Cond) = .arrayClass ty) := ⟨in_t13 (List.mem_of_getElem? (i := 53) rfl), Or.inl rfl⟩
set_option maxRecDepth 100000 in
theorem mw_455 : (.selects RX11 yX11_forget yX11_forget : Cond) ∈ WA := inB_14 (List.mem_of_getElem? (i := 7) rfl)
set_option maxRecDepth 100000 in
theorem ml_455 : (.selects RX11 yX11_forget yX11_forget : Cond) ∈ lw_tbl ∧ (((.selects RX11 yX11_forget yX11_forget : Cond).onTables && (.selects RX11 yX11_forget yX11_forget : Cond).keeps) = true ∨ ∃ ty, (.selects RX11 yX11_forget yX11_forget : Cond) = .arrayClass ty) := ⟨in_t13 (List.mem_of_getElem? (i := 54) rfl), Or.inl rfl⟩
set_option maxRecDepth 100000 in
theorem mw_456 : (.constant RX10 259 2147483646 : Cond) ∈ WA := inB_14 (List.mem_of_getElem? (i := 8) rfl)
set_option maxRecDepth 100000 in
theorem ml_456 : (.constant RX10 259 2147483646 : Cond) ∈ lw_tbl ∧ (((.constant RX10 259 2147483646 : Cond).onTables && (.constant RX10 259 2147483646 : Cond).keeps) = true ∨ ∃ ty, (.constant RX10 259 2147483646 : Cond) = .arrayClass ty) := ⟨in_t8 (List.mem_of_getElem? (i := 136) rfl), Or.inl rfl⟩
set_option maxRecDepth 100000 in
theorem mw_457 : (.code yX10_set cX10_set 4 (some .int) : Cond) ∈ WA := inB_14 (List.mem_of_getElem? (i := 9) rfl)
set_option maxRecDepth 100000 in
theorem ml_457 : (.code yX10_set cX10_set 4 (some .int) : Cond) ∈ lw_tbl ∧ (((.code yX10_set cX10_set 4 (some .int) : Cond).onTables && (.code yX10_set cX10_set 4 (some .int) : Cond).keeps) = true ∨ ∃ ty, (.code yX10_set cX10_set 4 (some .int) : Cond) = .arrayClass ty) := ⟨in_t8 (List.mem_of_getElem? (i := 135) rfl), Or.inl rfl⟩
set_option maxRecDepth 100000 in
theorem mw_458 : (.methodLink RL 81 yX10_set : Cond) ∈ WA := inB_14 (List.mem_of_getElem? (i := 10) rfl)
set_option maxRecDepth 100000 in
theorem ml_458 : (.methodLink RL 81 yX10_set : Cond) ∈ lw_tbl ∧ (((.methodLink RL 81 yX10_set : Cond).onTables && (.methodLink RL 81 yX10_set : Cond).keeps) = true ∨ ∃ ty, (.methodLink RL 81 yX10_set : Cond) = .arrayClass ty) := ⟨in_t8 (List.mem_of_getElem? (i := 132) rfl), Or.inl rfl⟩
set_option maxRecDepth 100000 in
theorem mw_459 : (.instanceMethod yX10_set : Cond) ∈ WA := inB_14 (List.mem_of_getElem? (i := 11) rfl)
set_option maxRecDepth 100000 in
theorem ml_459 : (.instanceMethod yX10_set : Cond) ∈ lw_tbl ∧ (((.instanceMethod yX10_set : Cond).onTables && (.instanceMethod yX10_set : Cond).keeps) = true ∨ ∃ ty, (.instanceMethod yX10_set : Cond) = .arrayClass ty) := ⟨in_t8 (List.mem_of_getElem? (i := 133) rfl), Or.inl rfl⟩
set_option maxRecDepth 100000 in
theorem mw_460 : (.selects RX10 yX10_set yX10_set : Cond) ∈ WA := inB_14 (List.mem_of_getElem? (i := 12) rfl)
set_option maxRecDepth 100000 in
theorem ml_460 : (.selects RX10 yX10_set yX10_set : Cond) ∈ lw_tbl ∧ (((.selects RX10 yX10_set yX10_set : Cond).onTables && (.selects RX10 yX10_set yX10_set : Cond).keeps) = true ∨ ∃ ty, (.selects RX10 yX10_set yX10_set : Cond) = .arrayClass ty) := ⟨in_t8 (List.mem_of_getElem? (i := 134) rfl), Or.inl rfl⟩
set_option maxRecDepth 100000 in
theorem mw_461 : (.constantLong RX11 155 2147483647 : Cond) ∈ WA := inB_14 (List.mem_of_getElem? (i := 13) rfl)
set_option maxRecDepth 100000 in
theorem ml_461 : (.constantLong RX11 155 2147483647 : Cond) ∈ lw_tbl ∧ (((.constantLong RX11 155 2147483647 : Cond).onTables && (.constantLong RX11 155 2147483647 : Cond).keeps) = true ∨ ∃ ty, (.constantLong RX11 155 2147483647 : Cond) = .arrayClass ty) := ⟨in_t11 (List.mem_of_getElem? (i := 78) rfl), Or.inl rfl⟩
set_option maxRecDepth 100000 in
theorem mw_462 : (.code yX11_set_ cX11_set_ 4 (some .int) : Cond) ∈ WA := inB_14 (List.mem_of_getElem? (i := 14) rfl)
set_option maxRecDepth 100000 in
theorem ml_462 : (.code yX11_set_ cX11_set_ 4 (some .int) : Cond) ∈ lw_tbl ∧ (((.code yX11_set_ cX11_set_ 4 (some .int) : Cond).onTables && (.code yX11_set_ cX11_set_ 4 (some .int) : Cond).keeps) = true ∨ ∃ ty, (.code yX11_set_ cX11_set_ 4 (some .int) : Cond) = .arrayClass ty) := ⟨in_t13 (List.mem_of_getElem? (i := 59) rfl), Or.inl rfl⟩
set_option maxRecDepth 100000 in
theorem mw_463 : (.methodLink RL 85 yX11_set_ : Cond) ∈ WA := inB_14 (List.mem_of_getElem? (i := 15) rfl)
set_option maxRecDepth 100000 in
theorem ml_463 : (.methodLink RL 85 yX11_set_ : Cond) ∈ lw_tbl ∧ (((.methodLink RL 85 yX11_set_ : Cond).onTables && (.methodLink RL 85 yX11_set_ : Cond).keeps) = true ∨ ∃ ty, (.methodLink RL 85 yX11_set_ : Cond) = .arrayClass ty) := ⟨in_t13 (List.mem_of_getElem? (i := 56) rfl), Or.inl rfl⟩
set_option maxRecDepth 100000 in
theorem mw_464 : (.instanceMethod yX11_set_ : Cond) ∈ WA := inB_14 (List.mem_of_getElem? (i := 16) rfl)
set_option maxRecDepth 100000 in
theorem ml_464 : (.instanceMethod yX11_set_ : Cond) ∈ lw_tbl ∧ (((.instanceMethod yX11_set_ : Cond).onTables && (.instanceMethod yX11_set_ : Cond).keeps) = true ∨ ∃ ty, (.instanceMethod yX11_set_ : Cond) = .arrayClass ty) := ⟨in_t13 (List.mem_of_getElem? (i := 57) rfl), Or.inl rfl⟩
set_option maxRecDepth 100000 in
theorem mw_465 : (.selects RX11 yX11_set_ yX11_set_ : Cond) ∈ WA := inB_14 (List.mem_of_getElem? (i := 17) rfl)
set_option maxRecDepth 100000 in
theorem ml_465 : (.selects RX11 yX11_set_ yX11_set_ : Cond) ∈ lw_tbl ∧ (((.selects RX11 yX11_set_ yX11_set_ : Cond).onTables && (.selects RX11 yX11_set_ yX11_set_ : Cond).keeps) = true ∨ ∃ ty, (.selects RX11 yX11_set_ yX11_set_ : Cond) = .arrayClass ty) := ⟨in_t13 (List.mem_of_getElem? (i := 58) rfl), Or.inl rfl⟩
set_option maxRecDepth 100000 in
theorem WBg_0 : GoodIn lw_tbl WB_0 := List.forall_mem_cons.mpr ⟨ml_0, List.forall_mem_cons.mpr ⟨ml_1, List.forall_mem_cons.mpr ⟨ml_2, List.forall_mem_cons.mpr ⟨ml_3, List.forall_mem_cons.mpr ⟨ml_4, List.forall_mem_cons.mpr ⟨ml_5, List.forall_mem_cons.mpr ⟨ml_6, List.forall_mem_cons.mpr ⟨ml_7, List.forall_mem_cons.mpr ⟨ml_8, List.forall_mem_cons.mpr ⟨ml_9, List.forall_mem_cons.mpr ⟨ml_10, List.forall_mem_cons.mpr ⟨ml_11, List.forall_mem_cons.mpr ⟨ml_12, List.forall_mem_cons.mpr ⟨ml_13, List.forall_mem_cons.mpr ⟨ml_14, List.forall_mem_cons.mpr ⟨ml_15, List.forall_mem_cons.mpr ⟨ml_16, List.forall_mem_cons.mpr ⟨ml_17, List.forall_mem_cons.mpr ⟨ml_18, List.forall_mem_cons.mpr ⟨ml_19, List.forall_mem_cons.mpr ⟨ml_20, List.forall_mem_cons.mpr ⟨ml_21, List.forall_mem_cons.mpr ⟨ml_22, List.forall_mem_cons.mpr ⟨ml_23, List.forall_mem_cons.mpr ⟨ml_24, List.forall_mem_cons.mpr ⟨ml_25, List.forall_mem_cons.mpr ⟨ml_26, List.forall_mem_cons.mpr ⟨ml_27, List.forall_mem_cons.mpr ⟨ml_28, List.forall_mem_cons.mpr ⟨ml_29, List.forall_mem_cons.mpr ⟨ml_30, List.forall_mem_cons.mpr ⟨ml_31, fun _ h => absurd h List.not_mem_nil⟩⟩⟩⟩⟩⟩⟩⟩⟩⟩⟩⟩⟩⟩⟩⟩⟩⟩⟩⟩⟩⟩⟩⟩⟩⟩⟩⟩⟩⟩⟩⟩
set_option maxRecDepth 100000 in
theorem WBg_1 : GoodIn lw_tbl WB_1 := List.forall_mem_cons.mpr ⟨ml_32, List.forall_mem_cons.mpr ⟨ml_33, List.forall_mem_cons.mpr ⟨ml_34, List.forall_mem_cons.mpr ⟨ml_35, List.forall_mem_cons.mpr ⟨ml_36, List.forall_mem_cons.mpr ⟨ml_37, List.forall_mem_cons.mpr ⟨ml_38, List.forall_mem_cons.mpr ⟨ml_39, List.forall_mem_cons.mpr ⟨ml_40, List.forall_mem_cons.mpr ⟨ml_41, List.forall_mem_cons.mpr ⟨ml_42, List.forall_mem_cons.mpr ⟨ml_43, List.forall_mem_cons.mpr ⟨ml_44, List.forall_mem_cons.mpr ⟨ml_45, List.forall_mem_cons.mpr ⟨ml_46, List.forall_mem_cons.mpr ⟨ml_47, List.forall_mem_cons.mpr ⟨ml_48, List.forall_mem_cons.mpr ⟨ml_49, List.forall_mem_cons.mpr ⟨ml_50, List.forall_mem_cons.mpr ⟨ml_51, List.forall_mem_cons.mpr ⟨ml_52, List.forall_mem_cons.mpr ⟨ml_53, List.forall_mem_cons.mpr ⟨ml_54, List.forall_mem_cons.mpr ⟨ml_55, List.forall_mem_cons.mpr ⟨ml_56, List.forall_mem_cons.mpr ⟨ml_57, List.forall_mem_cons.mpr ⟨ml_58, List.forall_mem_cons.mpr ⟨ml_59, List.forall_mem_cons.mpr ⟨ml_60, List.forall_mem_cons.mpr ⟨ml_61, List.forall_mem_cons.mpr ⟨ml_62, List.forall_mem_cons.mpr ⟨ml_63, fun _ h => absurd h List.not_mem_nil⟩⟩⟩⟩⟩⟩⟩⟩⟩⟩⟩⟩⟩⟩⟩⟩⟩⟩⟩⟩⟩⟩⟩⟩⟩⟩⟩⟩⟩⟩⟩⟩
set_option maxRecDepth 100000 in
theorem WBg_2 : GoodIn lw_tbl WB_2 := List.forall_mem_cons.mpr ⟨ml_64, List.forall_mem_cons.mpr ⟨ml_65, List.forall_mem_cons.mpr ⟨ml_66, List.forall_mem_cons.mpr ⟨ml_67, List.forall_mem_cons.mpr ⟨ml_68, List.forall_mem_cons.mpr ⟨ml_69, List.forall_mem_cons.mpr ⟨ml_70, List.forall_mem_cons.mpr ⟨ml_71, List.forall_mem_cons.mpr ⟨ml_72, List.forall_mem_cons.mpr ⟨ml_73, List.forall_mem_cons.mpr ⟨ml_74, List.forall_mem_cons.mpr ⟨ml_75, List.forall_mem_cons.mpr ⟨ml_76, List.forall_mem_cons.mpr ⟨ml_77, List.forall_mem_cons.mpr ⟨ml_78, List.forall_mem_cons.mpr ⟨ml_79, List.forall_mem_cons.mpr ⟨ml_80, List.forall_mem_cons.mpr ⟨ml_81, List.forall_mem_cons.mpr ⟨ml_82, List.forall_mem_cons.mpr ⟨ml_83, List.forall_mem_cons.mpr ⟨ml_84, List.forall_mem_cons.mpr ⟨ml_85, List.forall_mem_cons.mpr ⟨ml_86, List.forall_mem_cons.mpr ⟨ml_87, List.forall_mem_cons.mpr ⟨ml_88, List.forall_mem_cons.mpr ⟨ml_89, List.forall_mem_cons.mpr ⟨ml_90, List.forall_mem_cons.mpr ⟨ml_91, List.forall_mem_cons.mpr ⟨ml_92, List.forall_mem_cons.mpr ⟨ml_93, List.forall_mem_cons.mpr ⟨ml_94, List.forall_mem_cons.mpr ⟨ml_95, fun _ h => absurd h List.not_mem_nil⟩⟩⟩⟩⟩⟩⟩⟩⟩⟩⟩⟩⟩⟩⟩⟩⟩⟩⟩⟩⟩⟩⟩⟩⟩⟩⟩⟩⟩⟩⟩⟩
set_option maxRecDepth 100000 in
theorem WBg_3 : GoodIn lw_tbl WB_3 := List.forall_mem_cons.mpr ⟨ml_96, List.forall_mem_cons.mpr ⟨ml_97, List.forall_mem_cons.mpr ⟨ml_98, List.forall_mem_cons.mpr ⟨ml_99, List.forall_mem_cons.mpr ⟨ml_100, List.forall_mem_cons.mpr ⟨ml_101, List.forall_mem_cons.mpr ⟨ml_102, List.forall_mem_cons.mpr ⟨ml_103, List.forall_mem_cons.mpr ⟨ml_104, List.forall_mem_cons.mpr ⟨ml_105, List.forall_mem_cons.mpr ⟨ml_106, List.forall_mem_cons.mpr ⟨ml_107, List.forall_mem_cons.mpr ⟨ml_108, List.forall_mem_cons.mpr ⟨ml_109, List.forall_mem_cons.mpr ⟨ml_110, List.forall_mem_cons.mpr ⟨ml_111, List.forall_mem_cons.mpr ⟨ml_112, List.forall_mem_cons.mpr ⟨ml_113, List.forall_mem_cons.mpr ⟨ml_114, List.forall_mem_cons.mpr ⟨ml_115, List.forall_mem_cons.mpr ⟨ml_116, List.forall_mem_cons.mpr ⟨ml_117, List.forall_mem_cons.mpr ⟨ml_118, List.forall_mem_cons.mpr ⟨ml_119, List.forall_mem_cons.mpr ⟨ml_120, List.forall_mem_cons.mpr ⟨ml_121, List.forall_mem_cons.mpr ⟨ml_122, List.forall_mem_cons.mpr ⟨ml_123, List.forall_mem_cons.mpr ⟨ml_124, List.forall_mem_cons.mpr ⟨ml_125, List.forall_mem_cons.mpr ⟨ml_126, List.forall_mem_cons.mpr ⟨ml_127, fun _ h => absurd h List.not_mem_nil⟩⟩⟩⟩⟩⟩⟩⟩⟩⟩⟩⟩⟩⟩⟩⟩⟩⟩⟩⟩⟩⟩⟩⟩⟩⟩⟩⟩⟩⟩⟩⟩
set_option maxRecDepth 100000 in
theorem WBg_4 : GoodIn lw_tbl WB_4 := List.forall_mem_cons.mpr ⟨ml_128, List.forall_mem_cons.mpr ⟨ml_129, List.forall_mem_cons.mpr ⟨ml_130, List.forall_mem_cons.mpr ⟨ml_131, List.forall_mem_cons.mpr ⟨ml_132, List.forall_mem_cons.mpr ⟨ml_133, List.forall_mem_cons.mpr ⟨ml_134, List.forall_mem_cons.mpr ⟨ml_135, List.forall_mem_cons.mpr ⟨ml_136, List.forall_mem_cons.mpr ⟨ml_137, List.forall_mem_cons.mpr ⟨ml_138, List.forall_mem_cons.mpr ⟨ml_139, List.forall_mem_cons.mpr ⟨ml_140, List.forall_mem_cons.mpr ⟨ml_141, List.forall_mem_cons.mpr ⟨ml_142, List.forall_mem_cons.mpr ⟨ml_143, List.forall_mem_cons.mpr ⟨ml_144, List.forall_mem_cons.mpr ⟨ml_145, List.forall_mem_cons.mpr ⟨ml_146, List.forall_mem_cons.mpr ⟨ml_147, List.forall_mem_cons.mpr ⟨ml_148, List.forall_mem_cons.mpr ⟨ml_149, List.forall_mem_cons.mpr ⟨ml_150, List.forall_mem_cons.mpr ⟨ml_151, List.forall_mem_cons.mpr ⟨ml_152, List.forall_mem_cons.mpr ⟨ml_153, List.forall_mem_cons.mpr ⟨ml_154, List.forall_mem_cons.mpr ⟨ml_155, List.forall_mem_cons.mpr ⟨ml_156, List.forall_mem_cons.mpr ⟨ml_157, List.forall_mem_cons.mpr ⟨ml_158, List.forall_mem_cons.mpr ⟨ml_159, fun _ h => absurd h List.not_mem_nil⟩⟩⟩⟩⟩⟩⟩⟩⟩⟩⟩⟩⟩⟩⟩⟩⟩⟩⟩⟩⟩⟩⟩⟩⟩⟩⟩⟩⟩⟩⟩⟩
set_option maxRecDepth 100000 in
theorem WBg_5 : GoodIn lw_tbl WB_5 := List.forall_mem_cons.mpr ⟨ml_160, List.forall_mem_cons.mpr ⟨ml_161, List.forall_mem_cons.mpr ⟨ml_162, List.forall_mem_cons.mpr ⟨ml_163, List.forall_mem_cons.mpr ⟨ml_164, List.forall_mem_cons.mpr ⟨ml_165, List.forall_mem_cons.mpr ⟨ml_166, List.forall_mem_cons.mpr ⟨ml_167, List.forall_mem_cons.mpr ⟨ml_168, List.forall_mem_cons.mpr ⟨ml_169, List.forall_mem_cons.mpr ⟨ml_170, List.forall_mem_cons.mpr ⟨ml_171, List.forall_mem_cons.mpr ⟨ml_172, List.forall_mem_cons.mpr ⟨ml_173, List.forall_mem_cons.mpr ⟨ml_174, List.forall_mem_cons.mpr ⟨ml_175, List.forall_mem_cons.mpr ⟨ml_176, List.forall_mem_cons.mpr ⟨ml_177, List.forall_mem_cons.mpr ⟨ml_178, List.forall_mem_cons.mpr ⟨ml_179, List.forall_mem_cons.mpr ⟨ml_180, List.forall_mem_cons.mpr ⟨ml_181, List.forall_mem_cons.mpr ⟨ml_182, List.forall_mem_cons.mpr ⟨ml_183, List.forall_mem_cons.mpr ⟨ml_184, List.forall_mem_cons.mpr ⟨ml_185, List.forall_mem_cons.mpr ⟨ml_186, List.forall_mem_cons.mpr ⟨ml_187, List.forall_mem_cons.mpr ⟨ml_188, List.forall_mem_cons.mpr ⟨ml_189, List.forall_mem_cons.mpr ⟨ml_190, List.forall_mem_cons.mpr ⟨ml_191, fun _ h => absurd h List.not_mem_nil⟩⟩⟩⟩⟩⟩⟩⟩⟩⟩⟩⟩⟩⟩⟩⟩⟩⟩⟩⟩⟩⟩⟩⟩⟩⟩⟩⟩⟩⟩⟩⟩
set_option maxRecDepth 100000 in
theorem WBg_6 : GoodIn lw_tbl WB_6 := List.forall_mem_cons.mpr ⟨ml_192, List.forall_mem_cons.mpr ⟨ml_193, List.forall_mem_cons.mpr ⟨ml_194, List.forall_mem_cons.mpr ⟨ml_195, List.forall_mem_cons.mpr ⟨ml_196, List.forall_mem_cons.mpr ⟨ml_197, List.forall_mem_cons.mpr ⟨ml_198, List.forall_mem_cons.mpr ⟨ml_199, List.forall_mem_cons.mpr ⟨ml_200, List.forall_mem_cons.mpr ⟨ml_201, List.forall_mem_cons.mpr ⟨ml_202, List.forall_mem_cons.mpr ⟨ml_203, List.forall_mem_cons.mpr ⟨ml_204, List.forall_mem_cons.mpr ⟨ml_205, List.forall_mem_cons.mpr ⟨ml_206, List.forall_mem_cons.mpr ⟨ml_207, List.forall_mem_cons.mpr ⟨ml_208, List.forall_mem_cons.mpr ⟨ml_209, List.forall_mem_cons.mpr ⟨ml_210, List.forall_mem_cons.mpr ⟨ml_211, List.forall_mem_cons.mpr ⟨ml_212, List.forall_mem_cons.mpr ⟨ml_213, List.forall_mem_cons.mpr ⟨ml_214, List.forall_mem_cons.mpr ⟨ml_215, List.forall_mem_cons.mpr ⟨ml_216, List.forall_mem_cons.mpr ⟨ml_217, List.forall_mem_cons.mpr ⟨ml_218, List.forall_mem_cons.mpr ⟨ml_219, List.forall_mem_cons.mpr ⟨ml_220, List.forall_mem_cons.mpr ⟨ml_221, List.forall_mem_cons.mpr ⟨ml_222, List.forall_mem_cons.mpr ⟨ml_223, fun _ h => absurd h List.not_mem_nil⟩⟩⟩⟩⟩⟩⟩⟩⟩⟩⟩⟩⟩⟩⟩⟩⟩⟩⟩⟩⟩⟩⟩⟩⟩⟩⟩⟩⟩⟩⟩⟩
set_option maxRecDepth 100000 in
theorem WBg_7 : GoodIn lw_tbl WB_7 := List.forall_mem_cons.mpr ⟨ml_224, List.forall_mem_cons.mpr ⟨ml_225, List.forall_mem_cons.mpr ⟨ml_226, List.forall_mem_cons.mpr ⟨ml_227, List.forall_mem_cons.mpr ⟨ml_228, List.forall_mem_cons.mpr ⟨ml_229, List.forall_mem_cons.mpr ⟨ml_230, List.forall_mem_cons.mpr ⟨ml_231, List.forall_mem_cons.mpr ⟨ml_232, List.forall_mem_cons.mpr ⟨ml_233, List.forall_mem_cons.mpr ⟨ml_234, List.forall_mem_cons.mpr ⟨ml_235, List.forall_mem_cons.mpr ⟨ml_236, List.forall_mem_cons.mpr ⟨ml_237, List.forall_mem_cons.mpr ⟨ml_238, List.forall_mem_cons.mpr ⟨ml_239, List.forall_mem_cons.mpr ⟨ml_240, List.forall_mem_cons.mpr ⟨ml_241, List.forall_mem_cons.mpr ⟨ml_242, List.forall_mem_cons.mpr ⟨ml_243, List.forall_mem_cons.mpr ⟨ml_244, List.forall_mem_cons.mpr ⟨ml_245, List.forall_mem_cons.mpr ⟨ml_246, List.forall_mem_cons.mpr ⟨ml_247, List.forall_mem_cons.mpr ⟨ml_248, List.forall_mem_cons.mpr ⟨ml_249, List.forall_mem_cons.mpr ⟨ml_250, List.forall_mem_cons.mpr ⟨ml_251, List.forall_mem_cons.mpr ⟨ml_252, List.forall_mem_cons.mpr ⟨ml_253, List.forall_mem_cons.mpr ⟨ml_254, List.forall_mem_cons.mpr ⟨ml_255, fun _ h => absurd h List.not_mem_nil⟩⟩⟩⟩⟩⟩⟩⟩⟩⟩⟩⟩⟩⟩⟩⟩⟩⟩⟩⟩⟩⟩⟩⟩⟩⟩⟩⟩⟩⟩⟩⟩
set_option maxRecDepth 100000 in
theorem WBg_8 : GoodIn lw_tbl WB_8 := List.forall_mem_cons.mpr ⟨ml_256, List.forall_mem_cons.mpr ⟨ml_257, List.forall_mem_cons.mpr ⟨ml_258, List.forall_mem_cons.mpr ⟨ml_259, List.forall_mem_cons.mpr ⟨ml_260, List.forall_mem_cons.mpr ⟨ml_261, List.forall_mem_cons.mpr ⟨ml_262, List.forall_mem_cons.mpr ⟨ml_263, List.forall_mem_cons.mpr ⟨ml_264, List.forall_mem_cons.mpr ⟨ml_265, List.forall_mem_cons.mpr ⟨ml_266, List.forall_mem_cons.mpr ⟨ml_267, List.forall_mem_cons.mpr ⟨ml_268, List.forall_mem_cons.mpr ⟨ml_269, List.forall_mem_cons.mpr ⟨ml_270, List.forall_mem_cons.mpr ⟨ml_271, List.forall_mem_cons.mpr ⟨ml_272, List.forall_mem_cons.mpr ⟨ml_273, List.forall_mem_cons.mpr ⟨ml_274, List.forall_mem_cons.mpr ⟨ml_275, List.forall_mem_cons.mpr ⟨ml_276, List.forall_mem_cons.mpr ⟨ml_277, List.forall_mem_cons.mpr ⟨ml_278, List.forall_mem_cons.mpr ⟨ml_279, List.forall_mem_cons.mpr ⟨ml_280, List.forall_mem_cons.mpr ⟨ml_281, List.forall_mem_cons.mpr ⟨ml_282, List.forall_mem_cons.mpr ⟨ml_283, List.forall_mem_cons.mpr ⟨ml_284, List.forall_mem_cons.mpr ⟨ml_285, List.forall_mem_cons.mpr ⟨ml_286, List.forall_mem_cons.mpr ⟨ml_287, fun _ h => absurd h List.not_mem_nil⟩⟩⟩⟩⟩⟩⟩⟩⟩⟩⟩⟩⟩⟩⟩⟩⟩⟩⟩⟩⟩⟩⟩⟩⟩⟩⟩⟩⟩⟩⟩⟩
set_option maxRecDepth 100000 in
theorem WBg_9 : GoodIn lw_tbl WB_9 := List.forall_mem_cons.mpr ⟨ml_288, List.forall_mem_cons.mpr ⟨ml_289, List.forall_mem_cons.mpr ⟨ml_290, List.forall_mem_cons.mpr ⟨ml_291, List.forall_mem_cons.mpr ⟨ml_292, List.forall_mem_cons.mpr ⟨ml_293, List.forall_mem_cons.mpr ⟨ml_294, List.forall_mem_cons.mpr ⟨ml_295, List.forall_mem_cons.mpr ⟨ml_296, List.forall_mem_cons.mpr ⟨ml_297, List.forall_mem_cons.mpr ⟨ml_298, List.forall_mem_cons.mpr ⟨ml_299, List.forall_mem_cons.mpr ⟨ml_300, List.forall_mem_cons.mpr ⟨ml_301, List.forall_mem_cons.mpr ⟨ml_302, List.forall_mem_cons.mpr ⟨ml_303, List.forall_mem_cons.mpr ⟨ml_304, List.forall_mem_cons.mpr ⟨ml_305, List.forall_mem_cons.mpr ⟨ml_306, List.forall_mem_cons.mpr ⟨ml_307, List.forall_mem_cons.mpr ⟨ml_308, List.forall_mem_cons.mpr ⟨ml_309, List.forall_mem_cons.mpr ⟨ml_310, List.forall_mem_cons.mpr ⟨ml_311, List.forall_mem_cons.mpr ⟨ml_312, List.forall_mem_cons.mpr ⟨ml_313, List.forall_mem_cons.mpr ⟨ml_314, List.forall_mem_cons.mpr ⟨ml_315, List.forall_mem_cons.mpr ⟨ml_316, List.forall_mem_cons.mpr ⟨ml_317, List.forall_mem_cons.mpr ⟨ml_318, List.forall_mem_cons.mpr ⟨ml_319, fun _ h => absurd h List.not_mem_nil⟩⟩⟩⟩⟩⟩⟩⟩⟩⟩⟩⟩⟩⟩⟩⟩⟩⟩⟩⟩⟩⟩⟩⟩⟩⟩⟩⟩⟩⟩⟩⟩
set_option maxRecDepth 100000 in
theorem WBg_10 : GoodIn lw_tbl WB_10 := List.forall_mem_cons.mpr ⟨ml_320, List.forall_mem_cons.mpr ⟨ml_321, List.forall_mem_cons.mpr ⟨ml_322, List.forall_mem_cons.mpr ⟨ml_323, List.forall_mem_cons.mpr ⟨ml_324, List.forall_mem_cons.mpr ⟨ml_325, List.forall_mem_cons.mpr ⟨ml_326, List.forall_mem_cons.mpr ⟨ml_327, List.forall_mem_cons.mpr ⟨ml_328, List.forall_mem_cons.mpr ⟨ml_329, List.forall_mem_cons.mpr ⟨ml_330, List.forall_mem_cons.mpr ⟨ml_331, List.forall_mem_cons.mpr ⟨ml_332, List.forall_mem_cons.mpr ⟨ml_333, List.forall_mem_cons.mpr ⟨ml_334, List.forall_mem_cons.mpr ⟨ml_335, List.forall_mem_cons.mpr ⟨ml_336, List.forall_mem_cons.mpr ⟨ml_337, List.forall_mem_cons.mpr ⟨ml_338, List.forall_mem_cons.mpr ⟨ml_339, List.forall_mem_cons.mpr ⟨ml_340, List.forall_mem_cons.mpr ⟨ml_341, List.forall_mem_cons.mpr ⟨ml_342, List.forall_mem_cons.mpr ⟨ml_343, List.forall_mem_cons.mpr ⟨ml_344, List.forall_mem_cons.mpr ⟨ml_345, List.forall_mem_cons.mpr ⟨ml_346, List.forall_mem_cons.mpr ⟨ml_347, List.forall_mem_cons.mpr ⟨ml_348, List.forall_mem_cons.mpr ⟨ml_349, List.forall_mem_cons.mpr ⟨ml_350, List.forall_mem_cons.mpr ⟨ml_351, fun _ h => absurd h List.not_mem_nil⟩⟩⟩⟩⟩⟩⟩⟩⟩⟩⟩⟩⟩⟩⟩⟩⟩⟩⟩⟩⟩⟩⟩⟩⟩⟩⟩⟩⟩⟩⟩⟩
set_option maxRecDepth 100000 in
theorem WBg_11 : GoodIn lw_tbl WB_11 := List.forall_mem_cons.mpr ⟨ml_352, List.forall_mem_cons.mpr ⟨ml_353, List.forall_mem_cons.mpr ⟨ml_354, List.forall_mem_cons.mpr ⟨ml_355, List.forall_mem_cons.mpr ⟨ml_356, List.forall_mem_cons.mpr ⟨ml_357, List.forall_mem_cons.mpr ⟨ml_358, List.forall_mem_cons.mpr ⟨ml_359, List.forall_mem_cons.mpr ⟨ml_360, List.forall_mem_cons.mpr ⟨ml_361, List.forall_mem_cons.mpr ⟨ml_362, List.forall_mem_cons.mpr ⟨ml_363, List.forall_mem_cons.mpr ⟨ml_364, List.forall_mem_cons.mpr ⟨ml_365, List.forall_mem_cons.mpr ⟨ml_366, List.forall_mem_cons.mpr ⟨ml_367, List.forall_mem_cons.mpr ⟨ml_368, List.forall_mem_cons.mpr ⟨ml_369, List.forall_mem_cons.mpr ⟨ml_370, List.forall_mem_cons.mpr ⟨ml_371, List.forall_mem_cons.mpr ⟨ml_372, List.forall_mem_cons.mpr ⟨ml_373, List.forall_mem_cons.mpr ⟨ml_374, List.forall_mem_cons.mpr ⟨ml_375, List.forall_mem_cons.mpr ⟨ml_376, List.forall_mem_cons.mpr ⟨ml_377, List.forall_mem_cons.mpr ⟨ml_378, List.forall_mem_cons.mpr ⟨ml_379, List.forall_mem_cons.mpr ⟨ml_380, List.forall_mem_cons.mpr ⟨ml_381, List.forall_mem_cons.mpr ⟨ml_382, List.forall_mem_cons.mpr ⟨ml_383, fun _ h => absurd h List.not_mem_nil⟩⟩⟩⟩⟩⟩⟩⟩⟩⟩⟩⟩⟩⟩⟩⟩⟩⟩⟩⟩⟩⟩⟩⟩⟩⟩⟩⟩⟩⟩⟩⟩
set_option maxRecDepth 100000 in
theorem WBg_12 : GoodIn lw_tbl WB_12 := List.forall_mem_cons.mpr ⟨ml_384, List.forall_mem_cons.mpr ⟨ml_385, List.forall_mem_cons.mpr ⟨ml_386, List.forall_mem_cons.mpr ⟨ml_387, List.forall_mem_cons.mpr ⟨ml_388, List.forall_mem_cons.mpr ⟨ml_389, List.forall_mem_cons.mpr ⟨ml_390, List.forall_mem_cons.mpr ⟨ml_391, List.forall_mem_cons.mpr ⟨ml_392, List.forall_mem_cons.mpr ⟨ml_393, List.forall_mem_cons.mpr ⟨ml_394, List.forall_mem_cons.mpr ⟨ml_395, List.forall_mem_cons.mpr ⟨ml_396, List.forall_mem_cons.mpr ⟨ml_397, List.forall_mem_cons.mpr ⟨ml_398, List.forall_mem_cons.mpr ⟨ml_399, List.forall_mem_cons.mpr ⟨ml_400, List.forall_mem_cons.mpr ⟨ml_401, List.forall_mem_cons.mpr ⟨ml_402, List.forall_mem_cons.mpr ⟨ml_403, List.forall_mem_cons.mpr ⟨ml_404, List.forall_mem_cons.mpr ⟨ml_405, List.forall_mem_cons.mpr ⟨ml_406, List.forall_mem_cons.mpr ⟨ml_407, List.forall_mem_cons.mpr ⟨ml_408, List.forall_mem_cons.mpr ⟨ml_409, List.forall_mem_cons.mpr ⟨ml_410, List.forall_mem_cons.mpr ⟨ml_411, List.forall_mem_cons.mpr ⟨ml_412, List.forall_mem_cons.mpr ⟨ml_413, List.forall_mem_cons.mpr ⟨ml_414, List.forall_mem_cons.mpr ⟨ml_415, fun _ h => absurd h List.not_mem_nil⟩⟩⟩⟩⟩⟩⟩⟩⟩⟩⟩⟩⟩⟩⟩⟩⟩⟩⟩⟩⟩⟩⟩⟩⟩⟩⟩⟩⟩⟩⟩⟩
set_option maxRecDepth 100000 in
theorem WBg_13 : GoodIn lw_tbl WB_13 := List.forall_mem_cons.mpr ⟨ml_416, List.forall_mem_cons.mpr ⟨ml_417, List.forall_mem_cons.mpr ⟨ml_418, List.forall_mem_cons.mpr ⟨ml_419, List.forall_mem_cons.mpr ⟨ml_420, List.forall_mem_cons.mpr ⟨ml_421, List.forall_mem_cons.mpr ⟨ml_422, List.forall_mem_cons.mpr ⟨ml_423, List.forall_mem_cons.mpr ⟨ml_424, List.forall_mem_cons.mpr ⟨ml_425, List.forall_mem_cons.mpr ⟨ml_426, List.forall_mem_cons.mpr ⟨ml_427, List.forall_mem_cons.mpr ⟨ml_428, List.forall_mem_cons.mpr ⟨ml_429, List.forall_mem_cons.mpr ⟨ml_430, List.forall_mem_cons.mpr ⟨ml_431, List.forall_mem_cons.mpr ⟨ml_432, List.forall_mem_cons.mpr ⟨ml_433, List.forall_mem_cons.mpr ⟨ml_434, List.forall_mem_cons.mpr ⟨ml_435, List.forall_mem_cons.mpr ⟨ml_436, List.forall_mem_cons.mpr ⟨ml_437, List.forall_mem_cons.mpr ⟨ml_438, List.forall_mem_cons.mpr ⟨ml_439, List.forall_mem_cons.mpr ⟨ml_440, List.forall_mem_cons.mpr ⟨ml_441, List.forall_mem_cons.mpr ⟨ml_442, List.forall_mem_cons.mpr ⟨ml_443, List.forall_mem_cons.mpr ⟨ml_444, List.forall_mem_cons.mpr ⟨ml_445, List.forall_mem_cons.mpr ⟨ml_446, List.forall_mem_cons.mpr ⟨ml_447, fun _ h => absurd h List.not_mem_nil⟩⟩⟩⟩⟩⟩⟩⟩⟩⟩⟩⟩⟩⟩⟩⟩⟩⟩⟩⟩⟩⟩⟩⟩⟩⟩⟩⟩⟩⟩⟩⟩
set_option maxRecDepth 100000 in
theorem WBg_14 : GoodIn lw_tbl WB_14 := List.forall_mem_cons.mpr ⟨ml_448, List.forall_mem_cons.mpr ⟨ml_449, List.forall_mem_cons.mpr ⟨ml_450, List.forall_mem_cons.mpr ⟨ml_451, List.forall_mem_cons.mpr ⟨ml_452, List.forall_mem_cons.mpr ⟨ml_453, List.forall_mem_cons.mpr ⟨ml_454, List.forall_mem_cons.mpr ⟨ml_455, List.forall_mem_cons.mpr ⟨ml_456, List.forall_mem_cons.mpr ⟨ml_457, List.forall_mem_cons.mpr ⟨ml_458, List.forall_mem_cons.mpr ⟨ml_459, List.forall_mem_cons.mpr ⟨ml_460, List.forall_mem_cons.mpr ⟨ml_461, List.forall_mem_cons.mpr ⟨ml_462, List.forall_mem_cons.mpr ⟨ml_463, List.forall_mem_cons.mpr ⟨ml_464, List.forall_mem_cons.mpr ⟨ml_465, fun _ h => absurd h List.not_mem_nil⟩⟩⟩⟩⟩⟩⟩⟩⟩⟩⟩⟩⟩⟩⟩⟩⟩⟩
set_option maxRecDepth 100000 in
theorem WUk_0 : ∀ k, k < 6 → u_lay RX0 TX0 k ∈ lw_tbl ∧ (((u_lay RX0 TX0 k).onTables && (u_lay RX0 TX0 k).keeps) = true ∨ ∃ ty, u_lay RX0 TX0 k = .arrayClass ty) := lt_s (lt_s (lt_s (lt_s (lt_s (lt_s (lt_0) ⟨in_t2 (List.mem_of_getElem? (i := 90) rfl), Or.inl rfl⟩) ⟨in_t2 (List.mem_of_getElem? (i := 92) rfl), Or.inl rfl⟩) ⟨in_t2 (List.mem_of_getElem? (i := 94) rfl), Or.inl rfl⟩) ⟨in_t2 (List.mem_of_getElem? (i := 96) rfl), Or.inl rfl⟩) ⟨in_t2 (List.mem_of_getElem? (i := 98) rfl), Or.inl rfl⟩) ⟨in_t2 (List.mem_of_getElem? (i := 100) rfl), Or.inl rfl⟩
set_option maxRecDepth 100000 in
theorem WUg_0 : GoodIn lw_tbl wsX00 := fun w hw => by
  obtain ⟨k, hk, e⟩ := List.mem_map.mp hw
  subst e
  exact WUk_0 k (List.mem_range.mp hk)
set_option maxRecDepth 100000 in
theorem WUk_1 : ∀ k, k < 9 → u_lay RX1 TX1 k ∈ lw_tbl ∧ (((u_lay RX1 TX1 k).onTables && (u_lay RX1 TX1 k).keeps) = true ∨ ∃ ty, u_lay RX1 TX1 k = .arrayClass ty) := lt_s (lt_s (lt_s (lt_s (lt_s (lt_s (lt_s (lt_s (lt_s (lt_0) ⟨in_t1 (List.mem_of_getElem? (i := 93) rfl), Or.inl rfl⟩) ⟨in_t1 (List.mem_of_getElem? (i := 95) rfl), Or.inl rfl⟩) ⟨in_t1 (List.mem_of_getElem? (i := 97) rfl), Or.inl rfl⟩) ⟨in_t1 (List.mem_of_getElem? (i := 99) rfl), Or.inl rfl⟩) ⟨in_t1 (List.mem_of_getElem? (i := 101) rfl), Or.inl rfl⟩) ⟨in_t1 (List.mem_of_getElem? (i := 103) rfl), Or.inl rfl⟩) ⟨in_t1 (List.mem_of_getElem? (i := 105) rfl), Or.inl rfl⟩) ⟨in_t1 (List.mem_of_getElem? (i := 107) rfl), Or.inl rfl⟩) ⟨in_t1 (List.mem_of_getElem? (i := 109) rfl), Or.inl rfl⟩
set_option maxRecDepth 100000 in
theorem WUg_1 : GoodIn lw_tbl wsX10 := fun w hw => by
  obtain ⟨k, hk, e⟩ := List.mem_map.mp hw
  subst e
  exact WUk_1 k (List.mem_range.mp hk)
set_option maxRecDepth 100000 in
theorem WUk_2 : ∀ k, k < 5 → u_lay RX2 TX2 k ∈ lw_tbl ∧ (((u_lay RX2 TX2 k).onTables && (u_lay RX2 TX2 k).keeps) = true ∨ ∃ ty, u_lay RX2 TX2 k = .arrayClass ty) := lt_s (lt_s (lt_s (lt_s (lt_s (lt_0) ⟨in_t2 (List.mem_of_getElem? (i := 38) rfl), Or.inl rfl⟩) ⟨in_t2 (List.mem_of_getElem? (i := 40) rfl), Or.inl rfl⟩) ⟨in_t2 (List.mem_of_getElem? (i := 42) rfl), Or.inl rfl⟩) ⟨in_t2 (List.mem_of_getElem? (i := 44) rfl), Or.inl rfl⟩) ⟨in_t2 (List.mem_of_getElem? (i := 46) rfl), Or.inl rfl⟩
set_option maxRecDepth 100000 in
theorem WUg_2 : GoodIn lw_tbl wsX20 := fun w hw => by
  obtain ⟨k, hk, e⟩ := List.mem_map.mp hw
  subst e
  exact WUk_2 k (List.mem_range.mp hk)
set_option maxRecDepth 100000 in
theorem WUk_3 : ∀ k, k < 16 → u_lay RX3 TX3 k ∈ lw_tbl ∧ (((u_lay RX3 TX3 k).onTables && (u_lay RX3 TX3 k).keeps) = true ∨ ∃ ty, u_lay RX3 TX3 k = .arrayClass ty) := lt_s (lt_s (lt_s (lt_s (lt_s (lt_s (lt_s (lt_s (lt_s (lt_s (lt_s (lt_s (lt_s (lt_s (lt_s (lt_s (lt_0) ⟨in_t1 (List.mem_of_getElem? (i := 184) rfl), Or.inl rfl⟩) ⟨in_t1 (List.mem_of_getElem? (i := 186) rfl), Or.inl rfl⟩) ⟨in_t1 (List.mem_of_getElem? (i := 188) rfl), Or.inl rfl⟩) ⟨in_t1 (List.mem_of_getElem? (i := 190) rfl), Or.inl rfl⟩) ⟨in_t1 (List.mem_of_getElem? (i := 192) rfl), Or.inl rfl⟩) ⟨in_t1 (List.mem_of_getElem? (i := 194) rfl), Or.inl rfl⟩) ⟨in_t1 (List.mem_of_getElem? (i := 196) rfl), Or.inl rfl⟩) ⟨in_t1 (List.mem_of_getElem? (i := 198) rfl), Or.inl rfl⟩) ⟨in_t1 (List.mem_of_getElem? (i := 200) rfl), Or.inl rfl⟩) ⟨in_t1 (List.mem_of_getElem? (i := 202) rfl), Or.inl rfl⟩) ⟨in_t1 (List.mem_of_getElem? (i := 204) rfl), Or.inl rfl⟩) ⟨in_t1 (List.mem_of_getElem? (i := 206) rfl), Or.inl rfl⟩) ⟨in_t1 (List.mem_of_getElem? (i := 208) rfl), Or.inl rfl⟩) ⟨in_t1 (List.mem_of_getElem? (i := 210) rfl), Or.inl rfl⟩) ⟨in_t1 (List.mem_of_getElem? (i := 212) rfl), Or.inl rfl⟩) ⟨in_t1 (List.mem_of_getElem? (i := 214) rfl), Or.inl rfl⟩
set_option maxRecDepth 100000 in
theorem WUg_3 : GoodIn lw_tbl wsX30 := fun w hw => by
  obtain ⟨k, hk, e⟩ := List.mem_map.mp hw
  subst e
  exact WUk_3 k (List.mem_range.mp hk)
set_option maxRecDepth 100000 in
theorem WUk_4 : ∀ k, k < 13 → u_lay RX4 TX4 k ∈ lw_tbl ∧ (((u_lay RX4 TX4 k).onTables && (u_lay RX4 TX4 k).keeps) = true ∨ ∃ ty, u_lay RX4 TX4 k = .arrayClass ty) := lt_s (lt_s (lt_s (lt_s (lt_s (lt_s (lt_s (lt_s (lt_s (lt_s (lt_s (lt_s (lt_s (lt_0) ⟨in_t2 (List.mem_of_getElem? (i := 118) rfl), Or.inl rfl⟩) ⟨in_t2 (List.mem_of_getElem? (i := 120) rfl), Or.inl rfl⟩) ⟨in_t2 (List.mem_of_getElem? (i := 122) rfl), Or.inl rfl⟩) ⟨in_t2 (List.mem_of_getElem? (i := 124) rfl), Or.inl rfl⟩) ⟨in_t2 (List.mem_of_getElem? (i := 126) rfl), Or.inl rfl⟩) ⟨in_t2 (List.mem_of_getElem? (i := 128) rfl), Or.inl rfl⟩) ⟨in_t2 (List.mem_of_getElem? (i := 130) rfl), Or.inl rfl⟩) ⟨in_t2 (List.mem_of_getElem? (i := 132) rfl), Or.inl rfl⟩) ⟨in_t2 (List.mem_of_getElem? (i := 134) rfl), Or.inl rfl⟩) ⟨in_t2 (List.mem_of_getElem? (i := 136) rfl), Or.inl rfl⟩) ⟨in_t2 (List.mem_of_getElem? (i := 138) rfl), Or.inl rfl⟩) ⟨in_t2 (List.mem_of_getElem? (i := 140) rfl), Or.inl rfl⟩) ⟨in_t2 (List.mem_of_getElem? (i := 142) rfl), Or.inl rfl⟩
set_option maxRecDepth 100000 in
theorem WUg_4 : GoodIn lw_tbl wsX40 := fun w hw => by
  obtain ⟨k, hk, e⟩ := List.mem_map.mp hw
  subst e
  exact WUk_4 k (List.mem_range.mp hk)
set_option maxRecDepth 100000 in
theorem WUk_5 : ∀ k, k < 4 → u_lay RX5 TX5 k ∈ lw_tbl ∧ (((u_lay RX5 TX5 k).onTables && (u_lay RX5 TX5 k).keeps) = true ∨ ∃ ty, u_lay RX5 TX5 k = .arrayClass ty) := lt_s (lt_s (lt_s (lt_s (lt_0) ⟨in_t2 (List.mem_of_getElem? (i := 67) rfl), Or.inl rfl⟩) ⟨in_t2 (List.mem_of_getElem? (i := 69) rfl), Or.inl rfl⟩) ⟨in_t2 (List.mem_of_getElem? (i := 71) rfl), Or.inl rfl⟩) ⟨in_t2 (List.mem_of_getElem? (i := 73) rfl), Or.inl rfl⟩
set_option maxRecDepth 100000 in
theorem WUg_5 : GoodIn lw_tbl wsX50 := fun w hw => by
  obtain ⟨k, hk, e⟩ := List.mem_map.mp hw
  subst e
  exact WUk_5 k (List.mem_range.mp hk)
set_option maxRecDepth 100000 in
theorem WUk_6 : ∀ k, k < 5 → u_lay RX6 TX6 k ∈ lw_tbl ∧ (((u_lay RX6 TX6 k).onTables && (u_lay RX6 TX6 k).keeps) = true ∨ ∃ ty, u_lay RX6 TX6 k = .arrayClass ty) := lt_s (lt_s (lt_s (lt_s (lt_s (lt_0) ⟨in_t2 (List.mem_of_getElem? (i := 15) rfl), Or.inl rfl⟩) ⟨in_t2 (List.mem_of_getElem? (i := 17) rfl), Or.inl rfl⟩) ⟨in_t2 (List.mem_of_getElem? (i := 19) rfl), Or.inl rfl⟩) ⟨in_t2 (List.mem_of_getElem? (i := 21) rfl), Or.inl rfl⟩) ⟨in_t2 (List.mem_of_getElem? (i := 23) rfl), Or.inl rfl⟩
set_option maxRecDepth 100000 in
theorem WUg_6 : GoodIn lw_tbl wsX60 := fun w hw => by
  obtain ⟨k, hk, e⟩ := List.mem_map.mp hw
  subst e
  exact WUk_6 k (List.mem_range.mp hk)
set_option maxRecDepth 100000 in
theorem WUk_7 : ∀ k, k < 5 → u_lay RX7 TX7 k ∈ lw_tbl ∧ (((u_lay RX7 TX7 k).onTables && (u_lay RX7 TX7 k).keeps) = true ∨ ∃ ty, u_lay RX7 TX7 k = .arrayClass ty) := lt_s (lt_s (lt_s (lt_s (lt_s (lt_0) ⟨in_t1 (List.mem_of_getElem? (i := 57) rfl), Or.inl rfl⟩) ⟨in_t1 (List.mem_of_getElem? (i := 59) rfl), Or.inl rfl⟩) ⟨in_t1 (List.mem_of_getElem? (i := 61) rfl), Or.inl rfl⟩) ⟨in_t1 (List.mem_of_getElem? (i := 63) rfl), Or.inl rfl⟩) ⟨in_t1 (List.mem_of_getElem? (i := 65) rfl), Or.inl rfl⟩
set_option maxRecDepth 100000 in
theorem WUg_7 : GoodIn lw_tbl wsX70 := fun w hw => by
  obtain ⟨k, hk, e⟩ := List.mem_map.mp hw
  subst e
  exact WUk_7 k (List.mem_range.mp hk)
set_option maxRecDepth 100000 in
theorem WUk_8 : ∀ k, k < 8 → u_lay RX8 TX8 k ∈ lw_tbl ∧ (((u_lay RX8 TX8 k).onTables && (u_lay RX8 TX8 k).keeps) = true ∨ ∃ ty, u_lay RX8 TX8 k = .arrayClass ty) := lt_s (lt_s (lt_s (lt_s (lt_s (lt_s (lt_s (lt_s (lt_0) ⟨in_t1 (List.mem_of_getElem? (i := 132) rfl), Or.inl rfl⟩) ⟨in_t1 (List.mem_of_getElem? (i := 134) rfl), Or.inl rfl⟩) ⟨in_t1 (List.mem_of_getElem? (i := 136) rfl), Or.inl rfl⟩) ⟨in_t1 (List.mem_of_getElem? (i := 138) rfl), Or.inl rfl⟩) ⟨in_t1 (List.mem_of_getElem? (i := 140) rfl), Or.inl rfl⟩) ⟨in_t1 (List.mem_of_getElem? (i := 142) rfl), Or.inl rfl⟩) ⟨in_t1 (List.mem_of_getElem? (i := 144) rfl), Or.inl rfl⟩) ⟨in_t1 (List.mem_of_getElem? (i := 146) rfl), Or.inl rfl⟩
set_option maxRecDepth 100000 in
theorem WUg_8 : GoodIn lw_tbl wsX80 := fun w hw => by
  obtain ⟨k, hk, e⟩ := List.mem_map.mp hw
  subst e
  exact WUk_8 k (List.mem_range.mp hk)
set_option maxRecDepth 100000 in
theorem WUk_9 : ∀ k, k < 4 → u_lay RX9 TX9 k ∈ lw_tbl ∧ (((u_lay RX9 TX9 k).onTables && (u_lay RX9 TX9 k).keeps) = true ∨ ∃ ty, u_lay RX9 TX9 k = .arrayClass ty) := lt_s (lt_s (lt_s (lt_s (lt_0) ⟨in_t1 (List.mem_of_getElem? (i := 235) rfl), Or.inl rfl⟩) ⟨in_t1 (List.mem_of_getElem? (i := 237) rfl), Or.inl rfl⟩) ⟨in_t1 (List.mem_of_getElem? (i := 239) rfl), Or.inl rfl⟩) ⟨in_t2 (List.mem_of_getElem? (i := 1) rfl), Or.inl rfl⟩
set_option maxRecDepth 100000 in
theorem WUg_9 : GoodIn lw_tbl wsX90 := fun w hw => by
  obtain ⟨k, hk, e⟩ := List.mem_map.mp hw
  subst e
  exact WUk_9 k (List.mem_range.mp hk)
set_option maxRecDepth 100000 in
theorem WUk_10 : ∀ k, k < 11 → u_lay RX10 TX10 k ∈ lw_tbl ∧ (((u_lay RX10 TX10 k).onTables && (u_lay RX10 TX10 k).keeps) = true ∨ ∃ ty, u_lay RX10 TX10 k = .arrayClass ty) := lt_s (lt_s (lt_s (lt_s (lt_s (lt_s (lt_s (lt_s (lt_s (lt_s (lt_s (lt_0) ⟨in_t2 (List.mem_of_getElem? (i := 156) rfl), Or.inl rfl⟩) ⟨in_t2 (List.mem_of_getElem? (i := 158) rfl), Or.inl rfl⟩) ⟨in_t2 (List.mem_of_getElem? (i := 160) rfl), Or.inl rfl⟩) ⟨in_t2 (List.mem_of_getElem? (i := 162) rfl), Or.inl rfl⟩) ⟨in_t2 (List.mem_of_getElem? (i := 164) rfl), Or.inl rfl⟩) ⟨in_t2 (List.mem_of_getElem? (i := 166) rfl), Or.inl rfl⟩) ⟨in_t2 (List.mem_of_getElem? (i := 168) rfl), Or.inl rfl⟩) ⟨in_t2 (List.mem_of_getElem? (i := 170) rfl), Or.inl rfl⟩) ⟨in_t2 (List.mem_of_getElem? (i := 172) rfl), Or.inl rfl⟩) ⟨in_t2 (List.mem_of_getElem? (i := 174) rfl), Or.inl rfl⟩) ⟨in_t2 (List.mem_of_getElem? (i := 176) rfl), Or.inl rfl⟩
set_option maxRecDepth 100000 in
theorem WUg_10 : GoodIn lw_tbl wsX100 := fun w hw => by
  obtain ⟨k, hk, e⟩ := List.mem_map.mp hw
  subst e
  exact WUk_10 k (List.mem_range.mp hk)
set_option maxRecDepth 100000 in
theorem WUk_11 : ∀ k, k < 76 → u_lay RX11 TX11 k ∈ lw_tbl ∧ (((u_lay RX11 TX11 k).onTables && (u_lay RX11 TX11 k).keeps) = true ∨ ∃ ty, u_lay RX11 TX11 k = .arrayClass ty) := lt_s (lt_s (lt_s (lt_s (lt_s (lt_s (lt_s (lt_s (lt_s (lt_s (lt_s (lt_s (lt_s (lt_s (lt_s (lt_s (lt_s (lt_s (lt_s (lt_s (lt_s (lt_s (lt_s (lt_s (lt_s (lt_s (lt_s (lt_s (lt_s (lt_s (lt_s (lt_s (lt_s (lt_s (lt_s (lt_s (lt_s (lt_s (lt_s (lt_s (lt_s (lt_s (lt_s (lt_s (lt_s (lt_s (lt_s (lt_s (lt_s (lt_s (lt_s (lt_s (lt_s (lt_s (lt_s (lt_s (lt_s (lt_s (lt_s (lt_s (lt_s (lt_s (lt_s (lt_s (lt_s (lt_s (lt_s (lt_s (lt_s (lt_s (lt_s (lt_s (lt_s (lt_s (lt_s (lt_s (lt_0) ⟨in_t8 (List.mem_of_getElem? (i := 223) rfl), Or.inl rfl⟩) ⟨in_t8 (List.mem_of_getElem? (i := 225) rfl), Or.inl rfl⟩) ⟨in_t8 (List.mem_of_getElem? (i := 227) rfl), Or.inl rfl⟩) ⟨in_t8 (List.mem_of_getElem? (i := 229) rfl), Or.inl rfl⟩) ⟨in_t8 (List.mem_of_getElem? (i := 231) rfl), Or.inl rfl⟩) ⟨in_t8 (List.mem_of_getElem? (i := 233) rfl), Or.inl rfl⟩) ⟨in_t8 (List.mem_of_getElem? (i := 235) rfl), Or.inl rfl⟩) ⟨in_t8 (List.mem_of_getElem? (i := 237) rfl), Or.inl rfl⟩) ⟨in_t8 (List.mem_of_getElem? (i := 239) rfl), Or.inl rfl⟩) ⟨in_t9 (List.mem_of_getElem? (i := 1) rfl), Or.inl rfl⟩) ⟨in_t9 (List.mem_of_getElem? (i := 3) rfl), Or.inl rfl⟩) ⟨in_t9 (List.mem_of_getElem? (i := 5) rfl), Or.inl rfl⟩) ⟨in_t9 (List.mem_of_getElem? (i := 7) rfl), Or.inl rfl⟩) ⟨in_t9 (List.mem_of_getElem? (i := 9) rfl), Or.inl rfl⟩) ⟨in_t9 (List.mem_of_getElem? (i := 11) rfl), Or.inl rfl⟩) ⟨in_t9 (List.mem_of_getElem? (i := 13) rfl), Or.inl rfl⟩) ⟨in_t9 (List.mem_of_getElem? (i := 15) rfl), Or.inl rfl⟩) ⟨in_t9 (List.mem_of_getElem? (i := 17) rfl), Or.inl rfl⟩) ⟨in_t9 (List.mem_of_getElem? (i := 19) rfl), Or.inl rfl⟩) ⟨in_t9 (List.mem_of_getElem? (i := 21) rfl), Or.inl rfl⟩) ⟨in_t9 (List.mem_of_getElem? (i := 23) rfl), Or.inl rfl⟩) ⟨in_t9 (List.mem_of_getElem? (i := 25) rfl), Or.inl rfl⟩) ⟨in_t9 (List.mem_of_getElem? (i := 27) rfl), Or.inl rfl⟩) ⟨in_t9 (List.mem_of_getElem? (i := 29) rfl), Or.inl rfl⟩) ⟨in_t9 (List.mem_of_getElem? (i := 31) rfl), Or.inl rfl⟩) ⟨in_t9 (List.mem_of_getElem? (i := 33) rfl), Or.inl rfl⟩) ⟨in_t9 (List.mem_of_getElem? (i := 35) rfl), Or.inl rfl⟩) ⟨in_t9 (List.mem_of_getElem? (i := 37) rfl), Or.inl rfl⟩) ⟨in_t9 (List.mem_of_getElem? (i := 39) rfl), Or.inl rfl⟩) ⟨in_t9 (List.mem_of_getElem? (i := 41) rfl), Or.inl rfl⟩) ⟨in_t9 (List.mem_of_getElem? (i := 43) rfl), Or.inl rfl⟩) ⟨in_t9 (List.mem_of_getElem? (i := 45) rfl), Or.inl rfl⟩) ⟨in_t9 (List.mem_of_getElem? (i := 47) rfl), Or.inl rfl⟩) ⟨in_t9 (List.mem_of_getElem? (i := 49) rfl), Or.inl rfl⟩) ⟨in_t9 (List.mem_of_getElem? (i := 51) rfl), Or.inl rfl⟩) ⟨in_t9 (List.mem_of_getElem? (i := 53) rfl), Or.inl rfl⟩) ⟨in_t9 (List.mem_of_getElem? (i := 55) rfl), Or.inl rfl⟩) ⟨in_t9 (List.mem_of_getElem? (i := 57) rfl), Or.inl rfl⟩) ⟨in_t9 (List.mem_of_getElem? (i := 59) rfl), Or.inl rfl⟩) ⟨in_t9 (List.mem_of_getElem? (i := 61) rfl), Or.inl rfl⟩) ⟨in_t9 (List.mem_of_getElem? (i := 63) rfl), Or.inl rfl⟩) ⟨in_t9 (List.mem_of_getElem? (i := 65) rfl), Or.inl rfl⟩) ⟨in_t9 (List.mem_of_getElem? (i := 67) rfl), Or.inl rfl⟩) ⟨in_t9 (List.mem_of_getElem? (i := 69) rfl), Or.inl rfl⟩) ⟨in_t9 (List.mem_of_getElem? (i := 71) rfl), Or.inl rfl⟩) ⟨in_t9 (List.mem_of_getElem? (i := 73) rfl), Or.inl rfl⟩) ⟨in_t9 (List.mem_of_getElem? (i := 75) rfl), Or.inl rfl⟩) ⟨in_t9 (List.mem_of_getElem? (i := 77) rfl), Or.inl rfl⟩) ⟨in_t9 (List.mem_of_getElem? (i := 79) rfl), Or.inl rfl⟩) ⟨in_t9 (List.mem_of_getElem? (i := 81) rfl), Or.inl rfl⟩) ⟨in_t9 (List.mem_of_getElem? (i := 83) rfl), Or.inl rfl⟩) ⟨in_t9 (List.mem_of_getElem? (i := 85) rfl), Or.inl rfl⟩) ⟨in_t9 (List.mem_of_getElem? (i := 87) rfl), Or.inl rfl⟩) ⟨in_t9 (List.mem_of_getElem? (i := 89) rfl), Or.inl rfl⟩) ⟨in_t9 (List.mem_of_getElem? (i := 91) rfl), Or.inl rfl⟩) ⟨in_t9 (List.mem_of_getElem? (i := 93) rfl), Or.inl rfl⟩) ⟨in_t9 (List.mem_of_getElem? (i := 95) rfl), Or.inl rfl⟩) ⟨in_t9 (List.mem_of_getElem? (i := 97) rfl), Or.inl rfl⟩) ⟨in_t9 (List.mem_of_getElem? (i := 99) rfl), Or.inl rfl⟩) ⟨in_t9 (List.mem_of_getElem? (i := 101) rfl), Or.inl rfl⟩) ⟨in_t9 (List.mem_of_getElem? (i := 103) rfl), Or.inl rfl⟩) ⟨in_t9 (List.mem_of_getElem? (i := 105) rfl), Or.inl rfl⟩) ⟨in_t9 (List.mem_of_getElem? (i := 107) rfl), Or.inl rfl⟩) ⟨in_t9 (List.mem_of_getElem? (i := 109) rfl), Or.inl rfl⟩) ⟨in_t9 (List.mem_of_getElem? (i := 111) rfl), Or.inl rfl⟩) ⟨in_t9 (List.mem_of_getElem? (i := 113) rfl), Or.inl rfl⟩) ⟨in_t9 (List.mem_of_getElem? (i := 115) rfl), Or.inl rfl⟩) ⟨in_t9 (List.mem_of_getElem? (i := 117) rfl), Or.inl rfl⟩) ⟨in_t9 (List.mem_of_getElem? (i := 119) rfl), Or.inl rfl⟩) ⟨in_t9 (List.mem_of_getElem? (i := 121) rfl), Or.inl rfl⟩) ⟨in_t9 (List.mem_of_getElem? (i := 123) rfl), Or.inl rfl⟩) ⟨in_t9 (List.mem_of_getElem? (i := 125) rfl), Or.inl rfl⟩) ⟨in_t9 (List.mem_of_getElem? (i := 127) rfl), Or.inl rfl⟩) ⟨in_t9 (List.mem_of_getElem? (i := 129) rfl), Or.inl rfl⟩) ⟨in_t9 (List.mem_of_getElem? (i := 131) rfl), Or.inl rfl⟩) ⟨in_t9 (List.mem_of_getElem? (i := 133) rfl), Or.inl rfl⟩
set_option maxRecDepth 100000 in
theorem WUg_11 : GoodIn lw_tbl wsX110 := fun w hw => by
  obtain ⟨k, hk, e⟩ := List.mem_map.mp hw
  subst e
  exact WUk_11 k (List.mem_range.mp hk)
set_option maxRecDepth 100000 in
theorem gapp {big a b : List Cond} (ha : GoodIn big a) (hb : GoodIn big b) : GoodIn big (a ++ b) := fun w h => (List.mem_append.mp h).elim (ha w) (hb w)
set_option maxRecDepth 100000 in
theorem WA_good : GoodIn lw_tbl WA := gapp WBg_0 (gapp WBg_1 (gapp WBg_2 (gapp WBg_3 (gapp WBg_4 (gapp WBg_5 (gapp WBg_6 (gapp WBg_7 (gapp WBg_8 (gapp WBg_9 (gapp WBg_10 (gapp WBg_11 (gapp WBg_12 (gapp WBg_13 (gapp WBg_14 (gapp WUg_0 (gapp WUg_1 (gapp WUg_2 (gapp WUg_3 (gapp WUg_4 (gapp WUg_5 (gapp WUg_6 (gapp WUg_7 (gapp WUg_8 (gapp WUg_9 (gapp WUg_10 (WUg_11))))))))))))))))))))))))))
set_option maxRecDepth 100000 in
theorem iW_0 : ∀ w ∈ wsX00, w ∈ WA := fun w h => inU (List.mem_append_left _ h)
set_option maxRecDepth 100000 in
theorem iW_1 : ∀ w ∈ wsX10, w ∈ WA := fun w h => inU (List.mem_append_right _ (List.mem_append_left _ h))
set_option maxRecDepth 100000 in
theorem iW_2 : ∀ w ∈ wsX20, w ∈ WA := fun w h => inU (List.mem_append_right _ (List.mem_append_right _ (List.mem_append_left _ h)))
set_option maxRecDepth 100000 in
theorem iW_3 : ∀ w ∈ wsX30, w ∈ WA := fun w h => inU (List.mem_append_right _ (List.mem_append_right _ (List.mem_append_right _ (List.mem_append_left _ h))))
set_option maxRecDepth 100000 in
theorem iW_4 : ∀ w ∈ wsX40, w ∈ WA := fun w h => inU (List.mem_append_right _ (List.mem_append_right _ (List.mem_append_right _ (List.mem_append_right _ (List.mem_append_left _ h)))))
set_option maxRecDepth 100000 in
theorem iW_5 : ∀ w ∈ wsX50, w ∈ WA := fun w h => inU (List.mem_append_right _ (List.mem_append_right _ (List.mem_append_right _ (List.mem_append_right _ (List.mem_append_right _ (List.mem_append_left _ h))))))
set_option maxRecDepth 100000 in
theorem iW_6 : ∀ w ∈ wsX60, w ∈ WA := fun w h => inU (List.mem_append_right _ (List.mem_append_right _ (List.mem_append_right _ (List.mem_append_right _ (List.mem_append_right _ (List.mem_append_right _ (List.mem_append_left _ h)))))))
set_option maxRecDepth 100000 in
theorem iW_7 : ∀ w ∈ wsX70, w ∈ WA := fun w h => inU (List.mem_append_right _ (List.mem_append_right _ (List.mem_append_right _ (List.mem_append_right _ (List.mem_append_right _ (List.mem_append_right _ (List.mem_append_right _ (List.mem_append_left _ h))))))))
set_option maxRecDepth 100000 in
theorem iW_8 : ∀ w ∈ wsX80, w ∈ WA := fun w h => inU (List.mem_append_right _ (List.mem_append_right _ (List.mem_append_right _ (List.mem_append_right _ (List.mem_append_right _ (List.mem_append_right _ (List.mem_append_right _ (List.mem_append_right _ (List.mem_append_left _ h)))))))))
set_option maxRecDepth 100000 in
theorem iW_9 : ∀ w ∈ wsX90, w ∈ WA := fun w h => inU (List.mem_append_right _ (List.mem_append_right _ (List.mem_append_right _ (List.mem_append_right _ (List.mem_append_right _ (List.mem_append_right _ (List.mem_append_right _ (List.mem_append_right _ (List.mem_append_right _ (List.mem_append_left _ h))))))))))
set_option maxRecDepth 100000 in
theorem iW_10 : ∀ w ∈ wsX100, w ∈ WA := fun w h => inU (List.mem_append_right _ (List.mem_append_right _ (List.mem_append_right _ (List.mem_append_right _ (List.mem_append_right _ (List.mem_append_right _ (List.mem_append_right _ (List.mem_append_right _ (List.mem_append_right _ (List.mem_append_right _ (List.mem_append_left _ h)))))))))))
set_option maxRecDepth 100000 in
theorem iW_11 : ∀ w ∈ wsX110, w ∈ WA := fun w h => inU (List.mem_append_right _ (List.mem_append_right _ (List.mem_append_right _ (List.mem_append_right _ (List.mem_append_right _ (List.mem_append_right _ (List.mem_append_right _ (List.mem_append_right _ (List.mem_append_right _ (List.mem_append_right _ (List.mem_append_right _ (h))))))))))))
def NWL : List Cond := [.methodLinkNest RX10 9 yX7_init "ArrayHouse", .methodLinkNest RX10 18 yX1_init "ArrayHouse", .methodLinkNest RX10 27 yX8_init "ArrayHouse", .methodLinkNest RX10 34 yX3_init "ArrayHouse", .methodLinkNest RX10 43 yX9_init "ArrayHouse", .methodLinkNest RX10 64 yX6_init "ArrayHouse", .methodLinkNest RX10 69 yX2_init "ArrayHouse", .methodLinkNest RX4 41 yX5_init "ArrayHouse", .methodLinkNest RX0 32 yX9_init "ArrayHouse", .methodLinkNest RX4 50 yX0_init "ArrayHouse", .methodLinkNest RX10 74 yX4_init "ArrayHouse", .fieldLinkNest RX10 81 "ArrayHouse$Operators" "reader" "LArrayHouse$Reader;" "ArrayHouse", .fieldLinkNest RX10 89 "ArrayHouse$Writer" "length" "I" "ArrayHouse", .methodLinkNest RX10 95 yX7_begin "ArrayHouse", .fieldLinkNest RX10 119 "ArrayHouse$Reader" "place" "I" "ArrayHouse", .fieldLinkNest RX10 122 "ArrayHouse$Places" "deepest" "I" "ArrayHouse", .fieldLinkNest RX10 125 "ArrayHouse$Places" "guardCount" "I" "ArrayHouse", .methodLinkNest RX3 106 yX1_unsettle "ArrayHouse", .methodLinkNest RX3 110 yX1_moved "ArrayHouse", .methodLinkNest RX3 57 yX10_peek "ArrayHouse", .methodLinkNest RX3 113 yX8_unmake "ArrayHouse", .methodLinkNest RX3 118 yX1_settle "ArrayHouse", .methodLinkNest RX10 128 yX3_pack "ArrayHouse", .fieldLinkNest RX10 132 "ArrayHouse$Text" "keptLength" "I" "ArrayHouse", .methodLinkNest RX10 135 yX3_meansAt "ArrayHouse", .fieldLinkNest RX10 101 "ArrayHouse$Text" "length" "I" "ArrayHouse", .fieldLinkNest RX10 105 "ArrayHouse$Text" "count" "I" "ArrayHouse", .methodLinkNest RX10 108 yX8_scan "ArrayHouse", .fieldLinkNest RX10 116 "ArrayHouse$State" "event" "I" "ArrayHouse", .methodLinkNest RX10 158 yX8_statementEnd "ArrayHouse", .fieldLinkNest RX10 161 "ArrayHouse$Heap" "top" "I" "ArrayHouse", .fieldLinkNest RX3 89 "ArrayHouse$State" "event" "I" "ArrayHouse", .fieldLinkNest RX3 94 "ArrayHouse$Heap" "top" "I" "ArrayHouse", .methodLinkNest RX3 99 yX1_size "ArrayHouse", .methodLinkNest RX10 186 yX3_keep "ArrayHouse", .fieldLinkNest RX10 187 "ArrayHouse$State" "spent" "I" "ArrayHouse", .methodLinkNest RX4 215 yX3_meansAt "ArrayHouse", .methodLinkNest RX10 244 yX4_houseBytes "ArrayHouse", .fieldLinkNest RX10 250 "ArrayHouse$State" "origin" "I" "ArrayHouse", .fieldLinkNest RX10 253 "ArrayHouse$State" "link" "I" "ArrayHouse"]
set_option maxRecDepth 100000 in
theorem mn_0 : (.methodLinkNest RX10 9 yX7_init "ArrayHouse" : Cond) ∈ NWL := List.mem_of_getElem? (i := 0) rfl
set_option maxRecDepth 100000 in
theorem mt_0 : (.methodLinkNest RX10 9 yX7_init "ArrayHouse" : Cond) ∈ lw_tbl := in_t1 (List.mem_of_getElem? (i := 33) rfl)
set_option maxRecDepth 100000 in
theorem mn_1 : (.methodLinkNest RX10 18 yX1_init "ArrayHouse" : Cond) ∈ NWL := List.mem_of_getElem? (i := 1) rfl
set_option maxRecDepth 100000 in
theorem mt_1 : (.methodLinkNest RX10 18 yX1_init "ArrayHouse" : Cond) ∈ lw_tbl := in_t1 (List.mem_of_getElem? (i := 70) rfl)
set_option maxRecDepth 100000 in
theorem mn_2 : (.methodLinkNest RX10 27 yX8_init "ArrayHouse" : Cond) ∈ NWL := List.mem_of_getElem? (i := 2) rfl
set_option maxRecDepth 100000 in
theorem mt_2 : (.methodLinkNest RX10 27 yX8_init "ArrayHouse" : Cond) ∈ lw_tbl := in_t1 (List.mem_of_getElem? (i := 115) rfl)
set_option maxRecDepth 100000 in
theorem mn_3 : (.methodLinkNest RX10 34 yX3_init "ArrayHouse" : Cond) ∈ NWL := List.mem_of_getElem? (i := 3) rfl
set_option maxRecDepth 100000 in
theorem mt_3 : (.methodLinkNest RX10 34 yX3_init "ArrayHouse" : Cond) ∈ lw_tbl := in_t1 (List.mem_of_getElem? (i := 152) rfl)
set_option maxRecDepth 100000 in
theorem mn_4 : (.methodLinkNest RX10 43 yX9_init "ArrayHouse" : Cond) ∈ NWL := List.mem_of_getElem? (i := 4) rfl
set_option maxRecDepth 100000 in
theorem mt_4 : (.methodLinkNest RX10 43 yX9_init "ArrayHouse" : Cond) ∈ lw_tbl := in_t1 (List.mem_of_getElem? (i := 219) rfl)
set_option maxRecDepth 100000 in
theorem mn_5 : (.methodLinkNest RX10 64 yX6_init "ArrayHouse" : Cond) ∈ NWL := List.mem_of_getElem? (i := 5) rfl
set_option maxRecDepth 100000 in
theorem mt_5 : (.methodLinkNest RX10 64 yX6_init "ArrayHouse" : Cond) ∈ lw_tbl := in_t2 (List.mem_of_getElem? (i := 6) rfl)
set_option maxRecDepth 100000 in
theorem mn_6 : (.methodLinkNest RX10 69 yX2_init "ArrayHouse" : Cond) ∈ NWL := List.mem_of_getElem? (i := 6) rfl
set_option maxRecDepth 100000 in
theorem mt_6 : (.methodLinkNest RX10 69 yX2_init "ArrayHouse" : Cond) ∈ lw_tbl := in_t2 (List.mem_of_getElem? (i := 28) rfl)
set_option maxRecDepth 100000 in
theorem mn_7 : (.methodLinkNest RX4 41 yX5_init "ArrayHouse" : Cond) ∈ NWL := List.mem_of_getElem? (i := 7) rfl
set_option maxRecDepth 100000 in
theorem mt_7 : (.methodLinkNest RX4 41 yX5_init "ArrayHouse" : Cond) ∈ lw_tbl := in_t2 (List.mem_of_getElem? (i := 57) rfl)
set_option maxRecDepth 100000 in
theorem mn_8 : (.methodLinkNest RX0 32 yX9_init "ArrayHouse" : Cond) ∈ NWL := List.mem_of_getElem? (i := 8) rfl
set_option maxRecDepth 100000 in
theorem mt_8 : (.methodLinkNest RX0 32 yX9_init "ArrayHouse" : Cond) ∈ lw_tbl := in_t2 (List.mem_of_getElem? (i := 83) rfl)
set_option maxRecDepth 100000 in
theorem mn_9 : (.methodLinkNest RX4 50 yX0_init "ArrayHouse" : Cond) ∈ NWL := List.mem_of_getElem? (i := 9) rfl
set_option maxRecDepth 100000 in
theorem mt_9 : (.methodLinkNest RX4 50 yX0_init "ArrayHouse" : Cond) ∈ lw_tbl := in_t2 (List.mem_of_getElem? (i := 78) rfl)
set_option maxRecDepth 100000 in
theorem mn_10 : (.methodLinkNest RX10 74 yX4_init "ArrayHouse" : Cond) ∈ NWL := List.mem_of_getElem? (i := 10) rfl
set_option maxRecDepth 100000 in
theorem mt_10 : (.methodLinkNest RX10 74 yX4_init "ArrayHouse" : Cond) ∈ lw_tbl := in_t2 (List.mem_of_getElem? (i := 51) rfl)
set_option maxRecDepth 100000 in
theorem mn_11 : (.fieldLinkNest RX10 81 "ArrayHouse$Operators" "reader" "LArrayHouse$Reader;" "ArrayHouse" : Cond) ∈ NWL := List.mem_of_getElem? (i := 11) rfl
set_option maxRecDepth 100000 in
theorem mt_11 : (.fieldLinkNest RX10 81 "ArrayHouse$Operators" "reader" "LArrayHouse$Reader;" "ArrayHouse" : Cond) ∈ lw_tbl := in_t2 (List.mem_of_getElem? (i := 36) rfl)
set_option maxRecDepth 100000 in
theorem mn_12 : (.fieldLinkNest RX10 89 "ArrayHouse$Writer" "length" "I" "ArrayHouse" : Cond) ∈ NWL := List.mem_of_getElem? (i := 12) rfl
set_option maxRecDepth 100000 in
theorem mt_12 : (.fieldLinkNest RX10 89 "ArrayHouse$Writer" "length" "I" "ArrayHouse" : Cond) ∈ lw_tbl := in_t1 (List.mem_of_getElem? (i := 231) rfl)
set_option maxRecDepth 100000 in
theorem mn_13 : (.methodLinkNest RX10 95 yX7_begin "ArrayHouse" : Cond) ∈ NWL := List.mem_of_getElem? (i := 13) rfl
set_option maxRecDepth 100000 in
theorem mt_13 : (.methodLinkNest RX10 95 yX7_begin "ArrayHouse" : Cond) ∈ lw_tbl := in_t2 (List.mem_of_getElem? (i := 195) rfl)
set_option maxRecDepth 100000 in
theorem mn_14 : (.fieldLinkNest RX10 119 "ArrayHouse$Reader" "place" "I" "ArrayHouse" : Cond) ∈ NWL := List.mem_of_getElem? (i := 14) rfl
set_option maxRecDepth 100000 in
theorem mt_14 : (.fieldLinkNest RX10 119 "ArrayHouse$Reader" "place" "I" "ArrayHouse" : Cond) ∈ lw_tbl := in_t2 (List.mem_of_getElem? (i := 112) rfl)
set_option maxRecDepth 100000 in
theorem mn_15 : (.fieldLinkNest RX10 122 "ArrayHouse$Places" "deepest" "I" "ArrayHouse" : Cond) ∈ NWL := List.mem_of_getElem? (i := 15) rfl
set_option maxRecDepth 100000 in
theorem mt_15 : (.fieldLinkNest RX10 122 "ArrayHouse$Places" "deepest" "I" "ArrayHouse" : Cond) ∈ lw_tbl := in_t1 (List.mem_of_getElem? (i := 181) rfl)
set_option maxRecDepth 100000 in
theorem mn_16 : (.fieldLinkNest RX10 125 "ArrayHouse$Places" "guardCount" "I" "ArrayHouse" : Cond) ∈ NWL := List.mem_of_getElem? (i := 16) rfl
set_option maxRecDepth 100000 in
theorem mt_16 : (.fieldLinkNest RX10 125 "ArrayHouse$Places" "guardCount" "I" "ArrayHouse" : Cond) ∈ lw_tbl := in_t1 (List.mem_of_getElem? (i := 178) rfl)
set_option maxRecDepth 100000 in
theorem mn_17 : (.methodLinkNest RX3 106 yX1_unsettle "ArrayHouse" : Cond) ∈ NWL := List.mem_of_getElem? (i := 17) rfl
set_option maxRecDepth 100000 in
theorem mt_17 : (.methodLinkNest RX3 106 yX1_unsettle "ArrayHouse" : Cond) ∈ lw_tbl := in_t2 (List.mem_of_getElem? (i := 207) rfl)
set_option maxRecDepth 100000 in
theorem mn_18 : (.methodLinkNest RX3 110 yX1_moved "ArrayHouse" : Cond) ∈ NWL := List.mem_of_getElem? (i := 18) rfl
set_option maxRecDepth 100000 in
theorem mt_18 : (.methodLinkNest RX3 110 yX1_moved "ArrayHouse" : Cond) ∈ lw_tbl := in_t2 (List.mem_of_getElem? (i := 212) rfl)
set_option maxRecDepth 100000 in
theorem mn_19 : (.methodLinkNest RX3 57 yX10_peek "ArrayHouse" : Cond) ∈ NWL := List.mem_of_getElem? (i := 19) rfl
set_option maxRecDepth 100000 in
theorem mt_19 : (.methodLinkNest RX3 57 yX10_peek "ArrayHouse" : Cond) ∈ lw_tbl := in_t3 (List.mem_of_getElem? (i := 20) rfl)
set_option maxRecDepth 100000 in
theorem mn_20 : (.methodLinkNest RX3 113 yX8_unmake "ArrayHouse" : Cond) ∈ NWL := List.mem_of_getElem? (i := 20) rfl
set_option maxRecDepth 100000 in
theorem mt_20 : (.methodLinkNest RX3 113 yX8_unmake "ArrayHouse" : Cond) ∈ lw_tbl := in_t3 (List.mem_of_getElem? (i := 26) rfl)
set_option maxRecDepth 100000 in
theorem mn_21 : (.methodLinkNest RX3 118 yX1_settle "ArrayHouse" : Cond) ∈ NWL := List.mem_of_getElem? (i := 21) rfl
set_option maxRecDepth 100000 in
theorem mt_21 : (.methodLinkNest RX3 118 yX1_settle "ArrayHouse" : Cond) ∈ lw_tbl := in_t3 (List.mem_of_getElem? (i := 39) rfl)
set_option maxRecDepth 100000 in
theorem mn_22 : (.methodLinkNest RX10 128 yX3_pack "ArrayHouse" : Cond) ∈ NWL := List.mem_of_getElem? (i := 22) rfl
set_option maxRecDepth 100000 in
theorem mt_22 : (.methodLinkNest RX10 128 yX3_pack "ArrayHouse" : Cond) ∈ lw_tbl := in_t2 (List.mem_of_getElem? (i := 203) rfl)
set_option maxRecDepth 100000 in
theorem mn_23 : (.fieldLinkNest RX10 132 "ArrayHouse$Text" "keptLength" "I" "ArrayHouse" : Cond) ∈ NWL := List.mem_of_getElem? (i := 23) rfl
set_option maxRecDepth 100000 in
theorem mt_23 : (.fieldLinkNest RX10 132 "ArrayHouse$Text" "keptLength" "I" "ArrayHouse" : Cond) ∈ lw_tbl := in_t1 (List.mem_of_getElem? (i := 128) rfl)
set_option maxRecDepth 100000 in
theorem mn_24 : (.methodLinkNest RX10 135 yX3_meansAt "ArrayHouse" : Cond) ∈ NWL := List.mem_of_getElem? (i := 24) rfl
set_option maxRecDepth 100000 in
theorem mt_24 : (.methodLinkNest RX10 135 yX3_meansAt "ArrayHouse" : Cond) ∈ lw_tbl := in_t3 (List.mem_of_getElem? (i := 43) rfl)
set_option maxRecDepth 100000 in
theorem mn_25 : (.fieldLinkNest RX10 101 "ArrayHouse$Text" "length" "I" "ArrayHouse" : Cond) ∈ NWL := List.mem_of_getElem? (i := 25) rfl
set_option maxRecDepth 100000 in
theorem mt_25 : (.fieldLinkNest RX10 101 "ArrayHouse$Text" "length" "I" "ArrayHouse" : Cond) ∈ lw_tbl := in_t1 (List.mem_of_getElem? (i := 123) rfl)
set_option maxRecDepth 100000 in
theorem mn_26 : (.fieldLinkNest RX10 105 "ArrayHouse$Text" "count" "I" "ArrayHouse" : Cond) ∈ NWL := List.mem_of_getElem? (i := 26) rfl
set_option maxRecDepth 100000 in
theorem mt_26 : (.fieldLinkNest RX10 105 "ArrayHouse$Text" "count" "I" "ArrayHouse" : Cond) ∈ lw_tbl := in_t1 (List.mem_of_getElem? (i := 126) rfl)
set_option maxRecDepth 100000 in
theorem mn_27 : (.methodLinkNest RX10 108 yX8_scan "ArrayHouse" : Cond) ∈ NWL := List.mem_of_getElem? (i := 27) rfl
set_option maxRecDepth 100000 in
theorem mt_27 : (.methodLinkNest RX10 108 yX8_scan "ArrayHouse" : Cond) ∈ lw_tbl := in_t4 (List.mem_of_getElem? (i := 24) rfl)
set_option maxRecDepth 100000 in
theorem mn_28 : (.fieldLinkNest RX10 116 "ArrayHouse$State" "event" "I" "ArrayHouse" : Cond) ∈ NWL := List.mem_of_getElem? (i := 28) rfl
set_option maxRecDepth 100000 in
theorem mt_28 : (.fieldLinkNest RX10 116 "ArrayHouse$State" "event" "I" "ArrayHouse" : Cond) ∈ lw_tbl := in_t1 (List.mem_of_getElem? (i := 40) rfl)
set_option maxRecDepth 100000 in
theorem mn_29 : (.methodLinkNest RX10 158 yX8_statementEnd "ArrayHouse" : Cond) ∈ NWL := List.mem_of_getElem? (i := 29) rfl
set_option maxRecDepth 100000 in
theorem mt_29 : (.methodLinkNest RX10 158 yX8_statementEnd "ArrayHouse" : Cond) ∈ lw_tbl := in_t4 (List.mem_of_getElem? (i := 29) rfl)
set_option maxRecDepth 100000 in
theorem mn_30 : (.fieldLinkNest RX10 161 "ArrayHouse$Heap" "top" "I" "ArrayHouse" : Cond) ∈ NWL := List.mem_of_getElem? (i := 30) rfl
set_option maxRecDepth 100000 in
theorem mt_30 : (.fieldLinkNest RX10 161 "ArrayHouse$Heap" "top" "I" "ArrayHouse" : Cond) ∈ lw_tbl := in_t1 (List.mem_of_getElem? (i := 84) rfl)
set_option maxRecDepth 100000 in
theorem mn_31 : (.fieldLinkNest RX3 89 "ArrayHouse$State" "event" "I" "ArrayHouse" : Cond) ∈ NWL := List.mem_of_getElem? (i := 31) rfl
set_option maxRecDepth 100000 in
theorem mt_31 : (.fieldLinkNest RX3 89 "ArrayHouse$State" "event" "I" "ArrayHouse" : Cond) ∈ lw_tbl := in_t1 (List.mem_of_getElem? (i := 42) rfl)
set_option maxRecDepth 100000 in
theorem mn_32 : (.fieldLinkNest RX3 94 "ArrayHouse$Heap" "top" "I" "ArrayHouse" : Cond) ∈ NWL := List.mem_of_getElem? (i := 32) rfl
set_option maxRecDepth 100000 in
theorem mt_32 : (.fieldLinkNest RX3 94 "ArrayHouse$Heap" "top" "I" "ArrayHouse" : Cond) ∈ lw_tbl := in_t1 (List.mem_of_getElem? (i := 85) rfl)
set_option maxRecDepth 100000 in
theorem mn_33 : (.methodLinkNest RX3 99 yX1_size "ArrayHouse" : Cond) ∈ NWL := List.mem_of_getElem? (i := 33) rfl
set_option maxRecDepth 100000 in
theorem mt_33 : (.methodLinkNest RX3 99 yX1_size "ArrayHouse" : Cond) ∈ lw_tbl := in_t4 (List.mem_of_getElem? (i := 147) rfl)
set_option maxRecDepth 100000 in
theorem mn_34 : (.methodLinkNest RX10 186 yX3_keep "ArrayHouse" : Cond) ∈ NWL := List.mem_of_getElem? (i := 34) rfl
set_option maxRecDepth 100000 in
theorem mt_34 : (.methodLinkNest RX10 186 yX3_keep "ArrayHouse" : Cond) ∈ lw_tbl := in_t8 (List.mem_of_getElem? (i := 42) rfl)
set_option maxRecDepth 100000 in
theorem mn_35 : (.fieldLinkNest RX10 187 "ArrayHouse$State" "spent" "I" "ArrayHouse" : Cond) ∈ NWL := List.mem_of_getElem? (i := 35) rfl
set_option maxRecDepth 100000 in
theorem mt_35 : (.fieldLinkNest RX10 187 "ArrayHouse$State" "spent" "I" "ArrayHouse" : Cond) ∈ lw_tbl := in_t1 (List.mem_of_getElem? (i := 45) rfl)
set_option maxRecDepth 100000 in
theorem mn_36 : (.methodLinkNest RX4 215 yX3_meansAt "ArrayHouse" : Cond) ∈ NWL := List.mem_of_getElem? (i := 36) rfl
set_option maxRecDepth 100000 in
theorem mt_36 : (.methodLinkNest RX4 215 yX3_meansAt "ArrayHouse" : Cond) ∈ lw_tbl := in_t4 (List.mem_of_getElem? (i := 215) rfl)
set_option maxRecDepth 100000 in
theorem mn_37 : (.methodLinkNest RX10 244 yX4_houseBytes "ArrayHouse" : Cond) ∈ NWL := List.mem_of_getElem? (i := 37) rfl
set_option maxRecDepth 100000 in
theorem mt_37 : (.methodLinkNest RX10 244 yX4_houseBytes "ArrayHouse" : Cond) ∈ lw_tbl := in_t8 (List.mem_of_getElem? (i := 123) rfl)
set_option maxRecDepth 100000 in
theorem mn_38 : (.fieldLinkNest RX10 250 "ArrayHouse$State" "origin" "I" "ArrayHouse" : Cond) ∈ NWL := List.mem_of_getElem? (i := 38) rfl
set_option maxRecDepth 100000 in
theorem mt_38 : (.fieldLinkNest RX10 250 "ArrayHouse$State" "origin" "I" "ArrayHouse" : Cond) ∈ lw_tbl := in_t1 (List.mem_of_getElem? (i := 52) rfl)
set_option maxRecDepth 100000 in
theorem mn_39 : (.fieldLinkNest RX10 253 "ArrayHouse$State" "link" "I" "ArrayHouse" : Cond) ∈ NWL := List.mem_of_getElem? (i := 39) rfl
set_option maxRecDepth 100000 in
theorem mt_39 : (.fieldLinkNest RX10 253 "ArrayHouse$State" "link" "I" "ArrayHouse" : Cond) ∈ lw_tbl := in_t1 (List.mem_of_getElem? (i := 56) rfl)
set_option maxRecDepth 100000 in
theorem NWL_in : ∀ w ∈ NWL, w ∈ lw_tbl := List.forall_mem_cons.mpr ⟨mt_0, List.forall_mem_cons.mpr ⟨mt_1, List.forall_mem_cons.mpr ⟨mt_2, List.forall_mem_cons.mpr ⟨mt_3, List.forall_mem_cons.mpr ⟨mt_4, List.forall_mem_cons.mpr ⟨mt_5, List.forall_mem_cons.mpr ⟨mt_6, List.forall_mem_cons.mpr ⟨mt_7, List.forall_mem_cons.mpr ⟨mt_8, List.forall_mem_cons.mpr ⟨mt_9, List.forall_mem_cons.mpr ⟨mt_10, List.forall_mem_cons.mpr ⟨mt_11, List.forall_mem_cons.mpr ⟨mt_12, List.forall_mem_cons.mpr ⟨mt_13, List.forall_mem_cons.mpr ⟨mt_14, List.forall_mem_cons.mpr ⟨mt_15, List.forall_mem_cons.mpr ⟨mt_16, List.forall_mem_cons.mpr ⟨mt_17, List.forall_mem_cons.mpr ⟨mt_18, List.forall_mem_cons.mpr ⟨mt_19, List.forall_mem_cons.mpr ⟨mt_20, List.forall_mem_cons.mpr ⟨mt_21, List.forall_mem_cons.mpr ⟨mt_22, List.forall_mem_cons.mpr ⟨mt_23, List.forall_mem_cons.mpr ⟨mt_24, List.forall_mem_cons.mpr ⟨mt_25, List.forall_mem_cons.mpr ⟨mt_26, List.forall_mem_cons.mpr ⟨mt_27, List.forall_mem_cons.mpr ⟨mt_28, List.forall_mem_cons.mpr ⟨mt_29, List.forall_mem_cons.mpr ⟨mt_30, List.forall_mem_cons.mpr ⟨mt_31, List.forall_mem_cons.mpr ⟨mt_32, List.forall_mem_cons.mpr ⟨mt_33, List.forall_mem_cons.mpr ⟨mt_34, List.forall_mem_cons.mpr ⟨mt_35, List.forall_mem_cons.mpr ⟨mt_36, List.forall_mem_cons.mpr ⟨mt_37, List.forall_mem_cons.mpr ⟨mt_38, List.forall_mem_cons.mpr ⟨mt_39, fun _ h => absurd h List.not_mem_nil⟩⟩⟩⟩⟩⟩⟩⟩⟩⟩⟩⟩⟩⟩⟩⟩⟩⟩⟩⟩⟩⟩⟩⟩⟩⟩⟩⟩⟩⟩⟩⟩⟩⟩⟩⟩⟩⟩⟩⟩
