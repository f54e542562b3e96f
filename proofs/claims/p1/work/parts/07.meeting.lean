theorem dX2_init_23 : decode cX2_init 23 = .ok (.iload_n 1, 1) := by decide +kernel
theorem dX2_init_24 : decode cX2_init 24 = .ok (.bipush 20, 2) := by decide +kernel
theorem dX2_init_26 : decode cX2_init 26 = .ok (.if_icmp .ge 22, 3) := by decide +kernel
theorem dX2_init_29 : decode cX2_init 29 = .ok (.aload_n 0, 1) := by decide +kernel
theorem dX2_init_30 : decode cX2_init 30 = .ok (.getfield 11, 3) := by decide +kernel
theorem dX2_init_33 : decode cX2_init 33 = .ok (.iload_n 1, 1) := by decide +kernel
theorem dX2_init_34 : decode cX2_init 34 = .ok (.new 9, 3) := by decide +kernel
theorem dX2_init_37 : decode cX2_init 37 = .ok (.dup, 1) := by decide +kernel
theorem dX2_init_38 : decode cX2_init 38 = .ok (.invokespecial 21, 3) := by decide +kernel
theorem dX2_init_41 : decode cX2_init 41 = .ok (.aastore, 1) := by decide +kernel
theorem dX2_init_42 : decode cX2_init 42 = .ok (.iinc 1 1, 3) := by decide +kernel
theorem dX2_init_45 : decode cX2_init 45 = .ok (.goto (-22), 3) := by decide +kernel
set_option maxRecDepth 100000 in
theorem q_128 : (.classLink RX2 9 RX7) ∈ lw_all := List.mem_filter.mpr ⟨List.mem_of_getElem? (i := 128) (by decide +kernel), by decide +kernel⟩
set_option maxRecDepth 100000 in
theorem q_133 : (.code yX7_init cX7_init 1 none) ∈ lw_all := List.mem_filter.mpr ⟨List.mem_of_getElem? (i := 133) (rfl), by decide +kernel⟩
set_option maxRecDepth 100000 in
theorem q_191 : (.fieldLink RX2 11 "AssemblyChair$Docket" "questions" "[LAssemblyChair$Question;") ∈ lw_all := List.mem_filter.mpr ⟨List.mem_of_getElem? (i := 191) (by decide +kernel), by decide +kernel⟩
set_option maxRecDepth 100000 in
theorem q_69 : (.initialized RX7) ∈ lw_all := List.mem_filter.mpr ⟨List.mem_of_getElem? (i := 69) (by decide +kernel), by decide +kernel⟩
set_option maxRecDepth 100000 in
theorem q_132 : (.instanceMethod yX7_init) ∈ lw_all := List.mem_filter.mpr ⟨List.mem_of_getElem? (i := 132) (by decide +kernel), by decide +kernel⟩
set_option maxRecDepth 100000 in
theorem q_130 : (.instantiable RX7 7) ∈ lw_all := List.mem_filter.mpr ⟨List.mem_of_getElem? (i := 130) (by decide +kernel), by decide +kernel⟩
section DLOOP
variable {p : Program} {l : Launch} {e : Env} {R : Room} {s : State} {m : MethodId} {args : Array Value} {below : List Frame} {meth : Method} {c : Code} {Q : State → Prop}
variable {D : va_G} {A : Nat → Prop} {cI cQ cM cR : ClassId} {h0 dq dr : Nat}

set_option maxHeartbeats 4000000 in
set_option maxRecDepth 100000 in
theorem docket_loop (hx : p.tables.exec = Jvm.exec) (hb : c.code = cX2_init) (hml : c.maxLocals = 2) (hown : s.vm.findClass RX2 = some m.cls) (hts : ∀ w ∈ lw_all, w.before args s = true) (hK : va_K D vwCl (TY cI cQ cM cR) s) (hN : NW s) (hA : ∀ q : Nat, s.heap.size ≤ q → A q) (hRc : 102 ≤ R.cells) (hRs : 580 ≤ R.slots) (hRf : 2 + 1 ≤ R.frames) (hRl : 8 + (1 + 11) + 32 ≤ R.locals)
    (kk : ∀ (Q0 : Nat → QB) (H : Heap) (locs : List Loc) (ls : Array Slot), va_P D vwCl ([(h0, .inr (2, [.int 0, .int 0, .ref dq, .ref dr])), (dq, .inl (cQ, 20, .inr (.inr (.inr (.inr (qf Q0 20)))))), (dr, .inl (cI, 20, .inl (fun _ => 0)))] ++ qsW cI Q0 20) H → va_D A ([(h0, .inr (2, [.int 0, .int 0, .ref dq, .ref dr])), (dq, .inl (cQ, 20, .inr (.inr (.inr (.inr (qf Q0 20)))))), (dr, .inl (cI, 20, .inl (fun _ => 0)))] ++ qsW cI Q0 20) → va_S A s.heap H locs → lv_has ls 2 [(1, .int (nI 20)), (0, .ref h0)] → W p l e R s m args below meth c H locs 102 580 Q (F0 m 48 ls [])) :
    ∀ (n i : Nat), i + n = 20 → ∀ (Q0 : Nat → QB) (H : Heap) (locs : List Loc) (ls : Array Slot), va_P D vwCl ([(h0, .inr (2, [.int 0, .int 0, .ref dq, .ref dr])), (dq, .inl (cQ, 20, .inr (.inr (.inr (.inr (qf Q0 i)))))), (dr, .inl (cI, 20, .inl (fun _ => 0)))] ++ qsW cI Q0 i) H → va_D A ([(h0, .inr (2, [.int 0, .int 0, .ref dq, .ref dr])), (dq, .inl (cQ, 20, .inr (.inr (.inr (.inr (qf Q0 i)))))), (dr, .inl (cI, 20, .inl (fun _ => 0)))] ++ qsW cI Q0 i) → va_S A s.heap H locs → lv_has ls 2 [(1, .int (nI i)), (0, .ref h0)] → W p l e R s m args below meth c H locs (2 + 5 * i) (40 + 27 * i) Q (F0 m 23 ls []) := by
  sorry
end DLOOP
theorem dX2_init_0 : decode cX2_init 0 = .ok (.aload_n 0, 1) := by decide +kernel
theorem dX2_init_1 : decode cX2_init 1 = .ok (.invokespecial 3, 3) := by decide +kernel
theorem dX2_init_4 : decode cX2_init 4 = .ok (.aload_n 0, 1) := by decide +kernel
theorem dX2_init_5 : decode cX2_init 5 = .ok (.bipush 20, 2) := by decide +kernel
theorem dX2_init_7 : decode cX2_init 7 = .ok (.anewarray 9, 3) := by decide +kernel
theorem dX2_init_10 : decode cX2_init 10 = .ok (.putfield 11, 3) := by decide +kernel
theorem dX2_init_13 : decode cX2_init 13 = .ok (.aload_n 0, 1) := by decide +kernel
theorem dX2_init_14 : decode cX2_init 14 = .ok (.bipush 20, 2) := by decide +kernel
theorem dX2_init_16 : decode cX2_init 16 = .ok (.newarray .int, 2) := by decide +kernel
theorem dX2_init_18 : decode cX2_init 18 = .ok (.putfield 17, 3) := by decide +kernel
theorem dX2_init_21 : decode cX2_init 21 = .ok (.iconst 0, 1) := by decide +kernel
theorem dX2_init_22 : decode cX2_init 22 = .ok (.istore_n 1, 1) := by decide +kernel
theorem dX2_init_48 : decode cX2_init 48 = .ok (.return_, 1) := by decide +kernel
set_option maxRecDepth 100000 in
theorem q_192 : (.fieldLink RX2 17 "AssemblyChair$Docket" "resolved" "[I") ∈ lw_all := List.mem_filter.mpr ⟨List.mem_of_getElem? (i := 192) (by decide +kernel), by decide +kernel⟩
set_option maxRecDepth 100000 in
theorem q_127 : (.methodLink RX2 3 objectInit) ∈ lw_all := List.mem_filter.mpr ⟨List.mem_of_getElem? (i := 127) (by decide +kernel), by decide +kernel⟩
set_option maxHeartbeats 4000000 in
set_option maxRecDepth 100000 in
theorem c_X2_init (l : Launch) (D : va_G) (cI cQ cM cR : ClassId) (h0 : Nat) (sz : Nat) : Met l yX2_init (ws_ yX2_init cX2_init 2 none) ({ frames := 3, cells := 102, slots := 580, locals := 52 }) (PWN D cI cQ cM cR [.ref h0] [(h0, .inr (2, [.int 0, .int 0, .null, .null]))] sz) (va_Qv (fun _ => True) (fun (_ : Unit) (t : State) => ∃ gdq : Nat, ∃ gdr : Nat, ∃ gQ : Nat → QB, va_P D vwCl ([(h0, .inr (2, [.int 0, .int 0, .ref gdq, .ref gdr])), (gdq, .inl (cQ, 20, .inr (.inr (.inr (.inr (qf gQ 20)))))), (gdr, .inl (cI, 20, .inl (fun _ => 0)))] ++ (qsW cI gQ 20)) t.heap ∧ va_D (va_A [(h0, .inr (2, [.int 0, .int 0, .null, .null]))] sz) ([(h0, .inr (2, [.int 0, .int 0, .ref gdq, .ref gdr])), (gdq, .inl (cQ, 20, .inr (.inr (.inr (.inr (qf gQ 20)))))), (gdr, .inl (cI, 20, .inl (fun _ => 0)))] ++ (qsW cI gQ 20))) (va_A [(h0, .inr (2, [.int 0, .int 0, .null, .null]))] sz)) 102 580 (va_A [(h0, .inr (2, [.int 0, .int 0, .null, .null]))] sz) := by
  sorry
theorem dX4_init_0 : decode cX4_init 0 = .ok (.aload_n 0, 1) := by decide +kernel
theorem dX4_init_1 : decode cX4_init 1 = .ok (.invokespecial 3, 3) := by decide +kernel
theorem dX4_init_4 : decode cX4_init 4 = .ok (.aload_n 0, 1) := by decide +kernel
theorem dX4_init_5 : decode cX4_init 5 = .ok (.new 9, 3) := by decide +kernel
theorem dX4_init_8 : decode cX4_init 8 = .ok (.dup, 1) := by decide +kernel
theorem dX4_init_9 : decode cX4_init 9 = .ok (.invokespecial 11, 3) := by decide +kernel
theorem dX4_init_12 : decode cX4_init 12 = .ok (.putfield 12, 3) := by decide +kernel
theorem dX4_init_15 : decode cX4_init 15 = .ok (.aload_n 0, 1) := by decide +kernel
theorem dX4_init_16 : decode cX4_init 16 = .ok (.new 18, 3) := by decide +kernel
theorem dX4_init_19 : decode cX4_init 19 = .ok (.dup, 1) := by decide +kernel
theorem dX4_init_20 : decode cX4_init 20 = .ok (.invokespecial 20, 3) := by decide +kernel
theorem dX4_init_23 : decode cX4_init 23 = .ok (.putfield 21, 3) := by decide +kernel
theorem dX4_init_26 : decode cX4_init 26 = .ok (.aload_n 0, 1) := by decide +kernel
theorem dX4_init_27 : decode cX4_init 27 = .ok (.new 25, 3) := by decide +kernel
theorem dX4_init_30 : decode cX4_init 30 = .ok (.dup, 1) := by decide +kernel
theorem dX4_init_31 : decode cX4_init 31 = .ok (.invokespecial 27, 3) := by decide +kernel
theorem dX4_init_34 : decode cX4_init 34 = .ok (.putfield 28, 3) := by decide +kernel
theorem dX4_init_37 : decode cX4_init 37 = .ok (.aload_n 0, 1) := by decide +kernel
theorem dX4_init_38 : decode cX4_init 38 = .ok (.new 32, 3) := by decide +kernel
theorem dX4_init_41 : decode cX4_init 41 = .ok (.dup, 1) := by decide +kernel
theorem dX4_init_42 : decode cX4_init 42 = .ok (.invokespecial 34, 3) := by decide +kernel
theorem dX4_init_45 : decode cX4_init 45 = .ok (.putfield 35, 3) := by decide +kernel
theorem dX4_init_48 : decode cX4_init 48 = .ok (.aload_n 0, 1) := by decide +kernel
theorem dX4_init_49 : decode cX4_init 49 = .ok (.new 39, 3) := by decide +kernel
theorem dX4_init_52 : decode cX4_init 52 = .ok (.dup, 1) := by decide +kernel
theorem dX4_init_53 : decode cX4_init 53 = .ok (.invokespecial 41, 3) := by decide +kernel
theorem dX4_init_56 : decode cX4_init 56 = .ok (.putfield 42, 3) := by decide +kernel
theorem dX4_init_59 : decode cX4_init 59 = .ok (.aload_n 0, 1) := by decide +kernel
theorem dX4_init_60 : decode cX4_init 60 = .ok (.new 46, 3) := by decide +kernel
theorem dX4_init_63 : decode cX4_init 63 = .ok (.dup, 1) := by decide +kernel
theorem dX4_init_64 : decode cX4_init 64 = .ok (.invokespecial 48, 3) := by decide +kernel
theorem dX4_init_67 : decode cX4_init 67 = .ok (.putfield 49, 3) := by decide +kernel
theorem dX4_init_70 : decode cX4_init 70 = .ok (.aload_n 0, 1) := by decide +kernel
theorem dX4_init_71 : decode cX4_init 71 = .ok (.new 53, 3) := by decide +kernel
theorem dX4_init_74 : decode cX4_init 74 = .ok (.dup, 1) := by decide +kernel
theorem dX4_init_75 : decode cX4_init 75 = .ok (.invokespecial 55, 3) := by decide +kernel
theorem dX4_init_78 : decode cX4_init 78 = .ok (.putfield 56, 3) := by decide +kernel
theorem dX4_init_81 : decode cX4_init 81 = .ok (.aload_n 0, 1) := by decide +kernel
theorem dX4_init_82 : decode cX4_init 82 = .ok (.iconst 1, 1) := by decide +kernel
theorem dX4_init_83 : decode cX4_init 83 = .ok (.putfield 60, 3) := by decide +kernel
theorem dX4_init_86 : decode cX4_init 86 = .ok (.return_, 1) := by decide +kernel
set_option maxRecDepth 100000 in
theorem q_122 : (.classLink RX4 18 RX2) ∈ lw_all := List.mem_filter.mpr ⟨List.mem_of_getElem? (i := 122) (by decide +kernel), by decide +kernel⟩
set_option maxRecDepth 100000 in
theorem q_202 : (.classLink RX4 25 RX9) ∈ lw_all := List.mem_filter.mpr ⟨List.mem_of_getElem? (i := 202) (by decide +kernel), by decide +kernel⟩
set_option maxRecDepth 100000 in
theorem q_223 : (.classLink RX4 32 RX5) ∈ lw_all := List.mem_filter.mpr ⟨List.mem_of_getElem? (i := 223) (by decide +kernel), by decide +kernel⟩
set_option maxRecDepth 100000 in
theorem q_258 : (.classLink RX4 39 RX0) ∈ lw_all := List.mem_filter.mpr ⟨List.mem_of_getElem? (i := 258) (by decide +kernel), by decide +kernel⟩
set_option maxRecDepth 100000 in
theorem q_316 : (.classLink RX4 46 RX1) ∈ lw_all := List.mem_filter.mpr ⟨List.mem_of_getElem? (i := 316) (by decide +kernel), by decide +kernel⟩
set_option maxRecDepth 100000 in
theorem q_335 : (.classLink RX4 53 RX10) ∈ lw_all := List.mem_filter.mpr ⟨List.mem_of_getElem? (i := 335) (by decide +kernel), by decide +kernel⟩
set_option maxRecDepth 100000 in
theorem q_95 : (.classLink RX4 9 RX3) ∈ lw_all := List.mem_filter.mpr ⟨List.mem_of_getElem? (i := 95) (by decide +kernel), by decide +kernel⟩
set_option maxRecDepth 100000 in
theorem q_262 : (.code yX0_init cX0_init 1 none) ∈ lw_all := List.mem_filter.mpr ⟨List.mem_of_getElem? (i := 262) (rfl), by decide +kernel⟩
set_option maxRecDepth 100000 in
theorem q_320 : (.code yX1_init cX1_init 1 none) ∈ lw_all := List.mem_filter.mpr ⟨List.mem_of_getElem? (i := 320) (rfl), by decide +kernel⟩
set_option maxRecDepth 100000 in
theorem q_126 : (.code yX2_init cX2_init 2 none) ∈ lw_all := List.mem_filter.mpr ⟨List.mem_of_getElem? (i := 126) (rfl), by decide +kernel⟩
set_option maxRecDepth 100000 in
theorem q_99 : (.code yX3_init cX3_init 1 none) ∈ lw_all := List.mem_filter.mpr ⟨List.mem_of_getElem? (i := 99) (rfl), by decide +kernel⟩
set_option maxRecDepth 100000 in
theorem q_227 : (.code yX5_init cX5_init 1 none) ∈ lw_all := List.mem_filter.mpr ⟨List.mem_of_getElem? (i := 227) (rfl), by decide +kernel⟩
set_option maxRecDepth 100000 in
theorem q_206 : (.code yX9_init cX9_init 1 none) ∈ lw_all := List.mem_filter.mpr ⟨List.mem_of_getElem? (i := 206) (rfl), by decide +kernel⟩
set_option maxRecDepth 100000 in
theorem q_337 : (.fieldLink RX4 12 "AssemblyChair$Meeting" "house" "LAssemblyChair$House;") ∈ lw_all := List.mem_filter.mpr ⟨List.mem_of_getElem? (i := 337) (by decide +kernel), by decide +kernel⟩
set_option maxRecDepth 100000 in
theorem q_339 : (.fieldLink RX4 21 "AssemblyChair$Meeting" "docket" "LAssemblyChair$Docket;") ∈ lw_all := List.mem_filter.mpr ⟨List.mem_of_getElem? (i := 339) (by decide +kernel), by decide +kernel⟩
set_option maxRecDepth 100000 in
theorem q_341 : (.fieldLink RX4 28 "AssemblyChair$Meeting" "shelf" "LAssemblyChair$Shelf;") ∈ lw_all := List.mem_filter.mpr ⟨List.mem_of_getElem? (i := 341) (by decide +kernel), by decide +kernel⟩
set_option maxRecDepth 100000 in
theorem q_343 : (.fieldLink RX4 35 "AssemblyChair$Meeting" "minutes" "LAssemblyChair$Minutes;") ∈ lw_all := List.mem_filter.mpr ⟨List.mem_of_getElem? (i := 343) (by decide +kernel), by decide +kernel⟩
set_option maxRecDepth 100000 in
theorem q_345 : (.fieldLink RX4 42 "AssemblyChair$Meeting" "ballots" "LAssemblyChair$Ballots;") ∈ lw_all := List.mem_filter.mpr ⟨List.mem_of_getElem? (i := 345) (by decide +kernel), by decide +kernel⟩
set_option maxRecDepth 100000 in
theorem q_347 : (.fieldLink RX4 49 "AssemblyChair$Meeting" "debate" "LAssemblyChair$Debate;") ∈ lw_all := List.mem_filter.mpr ⟨List.mem_of_getElem? (i := 347) (by decide +kernel), by decide +kernel⟩
set_option maxRecDepth 100000 in
theorem q_349 : (.fieldLink RX4 56 "AssemblyChair$Meeting" "buffer" "LAssemblyChair$Text;") ∈ lw_all := List.mem_filter.mpr ⟨List.mem_of_getElem? (i := 349) (by decide +kernel), by decide +kernel⟩
set_option maxRecDepth 100000 in
theorem q_351 : (.fieldLink RX4 60 "AssemblyChair$Meeting" "isOpen" "Z") ∈ lw_all := List.mem_filter.mpr ⟨List.mem_of_getElem? (i := 351) (by decide +kernel), by decide +kernel⟩
set_option maxRecDepth 100000 in
theorem q_73 : (.initialized RX0) ∈ lw_all := List.mem_filter.mpr ⟨List.mem_of_getElem? (i := 73) (by decide +kernel), by decide +kernel⟩
set_option maxRecDepth 100000 in
theorem q_74 : (.initialized RX1) ∈ lw_all := List.mem_filter.mpr ⟨List.mem_of_getElem? (i := 74) (by decide +kernel), by decide +kernel⟩
set_option maxRecDepth 100000 in
theorem q_72 : (.initialized RX5) ∈ lw_all := List.mem_filter.mpr ⟨List.mem_of_getElem? (i := 72) (by decide +kernel), by decide +kernel⟩
set_option maxRecDepth 100000 in
theorem q_261 : (.instanceMethod yX0_init) ∈ lw_all := List.mem_filter.mpr ⟨List.mem_of_getElem? (i := 261) (by decide +kernel), by decide +kernel⟩
set_option maxRecDepth 100000 in
theorem q_319 : (.instanceMethod yX1_init) ∈ lw_all := List.mem_filter.mpr ⟨List.mem_of_getElem? (i := 319) (by decide +kernel), by decide +kernel⟩
set_option maxRecDepth 100000 in
theorem q_125 : (.instanceMethod yX2_init) ∈ lw_all := List.mem_filter.mpr ⟨List.mem_of_getElem? (i := 125) (by decide +kernel), by decide +kernel⟩
set_option maxRecDepth 100000 in
theorem q_98 : (.instanceMethod yX3_init) ∈ lw_all := List.mem_filter.mpr ⟨List.mem_of_getElem? (i := 98) (by decide +kernel), by decide +kernel⟩
set_option maxRecDepth 100000 in
theorem q_226 : (.instanceMethod yX5_init) ∈ lw_all := List.mem_filter.mpr ⟨List.mem_of_getElem? (i := 226) (by decide +kernel), by decide +kernel⟩
set_option maxRecDepth 100000 in
theorem q_205 : (.instanceMethod yX9_init) ∈ lw_all := List.mem_filter.mpr ⟨List.mem_of_getElem? (i := 205) (by decide +kernel), by decide +kernel⟩
set_option maxRecDepth 100000 in
theorem q_259 : (.instantiable RX0 13) ∈ lw_all := List.mem_filter.mpr ⟨List.mem_of_getElem? (i := 259) (by decide +kernel), by decide +kernel⟩
set_option maxRecDepth 100000 in
theorem q_317 : (.instantiable RX1 3) ∈ lw_all := List.mem_filter.mpr ⟨List.mem_of_getElem? (i := 317) (by decide +kernel), by decide +kernel⟩
set_option maxRecDepth 100000 in
theorem q_123 : (.instantiable RX2 4) ∈ lw_all := List.mem_filter.mpr ⟨List.mem_of_getElem? (i := 123) (by decide +kernel), by decide +kernel⟩
set_option maxRecDepth 100000 in
theorem q_96 : (.instantiable RX3 5) ∈ lw_all := List.mem_filter.mpr ⟨List.mem_of_getElem? (i := 96) (by decide +kernel), by decide +kernel⟩
set_option maxRecDepth 100000 in
theorem q_224 : (.instantiable RX5 7) ∈ lw_all := List.mem_filter.mpr ⟨List.mem_of_getElem? (i := 224) (by decide +kernel), by decide +kernel⟩
set_option maxRecDepth 100000 in
theorem q_203 : (.instantiable RX9 4) ∈ lw_all := List.mem_filter.mpr ⟨List.mem_of_getElem? (i := 203) (by decide +kernel), by decide +kernel⟩
set_option maxRecDepth 100000 in
theorem q_124 : (.methodLink RX4 20 yX2_init) ∈ lw_all := List.mem_filter.mpr ⟨List.mem_of_getElem? (i := 124) (by decide +kernel), by decide +kernel⟩
set_option maxRecDepth 100000 in
theorem q_94 : (.methodLink RX4 3 objectInit) ∈ lw_all := List.mem_filter.mpr ⟨List.mem_of_getElem? (i := 94) (by decide +kernel), by decide +kernel⟩
set_option maxHeartbeats 4000000 in
set_option maxRecDepth 100000 in
theorem c_X4_init (l : Launch) (D : va_G) (cI cQ cM cR : ClassId) (h0 : Nat) (sz : Nat) : Met l yX4_init (ws_ yX4_init cX4_init 1 none) ({ frames := 4, cells := 122, slots := 1810, locals := 73 }) (PWN D cI cQ cM cR [.ref h0] [(h0, .inr (4, [.null, .null, .null, .null, .null, .null, .null, .int 0, .int 0, .null, .int 0, .int 0, .int 0]))] sz) (va_Qv (fun _ => True) (fun (_ : Unit) (t : State) => ∃ gho : Nat, ∃ ghw : Nat, ∃ ghs : Nat, ∃ gdk : Nat, ∃ gdq : Nat, ∃ gdr : Nat, ∃ gsh : Nat, ∃ gst : Nat, ∃ gss : Nat, ∃ gsp : Nat, ∃ gmi : Nat, ∃ gma : Nat, ∃ gmb : Nat, ∃ gmc : Nat, ∃ gmd : Nat, ∃ gmm : Nat, ∃ gba : Nat, ∃ gby : Nat, ∃ gbn : Nat, ∃ gde : Nat, ∃ gbu : Nat, ∃ gbc : Nat, ∃ gQ : Nat → QB, va_P D vwCl ([(h0, .inr (4, [.ref gho, .ref gdk, .ref gsh, .ref gmi, .ref gba, .ref gde, .ref gbu, .int 1, .int 0, .null, .int 0, .int 0, .int 0])), (gho, .inr (3, [.int 0, .int 50, .int 0, .ref ghw, .ref ghs])), (ghw, .inl (cI, 12, .inl (fun _ => 0))), (ghs, .inl (cI, 12, .inl (fun _ => 0))), (gdk, .inr (2, [.int 0, .int 0, .ref gdq, .ref gdr])), (gdq, .inl (cQ, 20, .inr (.inr (.inr (.inr (qf gQ 20)))))), (gdr, .inl (cI, 20, .inl (fun _ => 0))), (gsh, .inr (9, [.int 0, .ref gst, .ref gss, .ref gsp])), (gst, .inl (cM, 160, .inr (.inr (.inr (.inr (fun _ => none)))))), (gss, .inl (cI, 160, .inl (fun _ => 0))), (gsp, .inl (cI, 160, .inl (fun _ => 0))), (gmi, .inr (5, [.int 0, .int 0, .ref gma, .ref gmb, .ref gmc, .ref gmd, .ref gmm])), (gma, .inl (cI, 120, .inl (fun _ => 0))), (gmb, .inl (cI, 120, .inl (fun _ => 0))), (gmc, .inl (cI, 120, .inl (fun _ => 0))), (gmd, .inl (cI, 120, .inl (fun _ => 0))), (gmm, .inl (cM, 120, .inr (.inr (.inr (.inr (fun _ => none)))))), (gba, .inr (0, [.int 0, .int 0, .int 0, .ref gby, .ref gbn, .int 0, .int 0, .int 0, .int 0, .int 0, .int 99, .int 0, .int 0])), (gby, .inl (cI, 40, .inl (fun _ => 0))), (gbn, .inl (cI, 40, .inl (fun _ => 0))), (gde, .inr (1, [.int (-5), .int 0, .int 0])), (gbu, .inr (10, [.int 0, .ref gbc])), (gbc, .inl (cI, 8, .inl (fun _ => 0)))] ++ (qsW cI gQ 20)) t.heap ∧ va_D (va_A [(h0, .inr (4, [.null, .null, .null, .null, .null, .null, .null, .int 0, .int 0, .null, .int 0, .int 0, .int 0]))] sz) ([(h0, .inr (4, [.ref gho, .ref gdk, .ref gsh, .ref gmi, .ref gba, .ref gde, .ref gbu, .int 1, .int 0, .null, .int 0, .int 0, .int 0])), (gho, .inr (3, [.int 0, .int 50, .int 0, .ref ghw, .ref ghs])), (ghw, .inl (cI, 12, .inl (fun _ => 0))), (ghs, .inl (cI, 12, .inl (fun _ => 0))), (gdk, .inr (2, [.int 0, .int 0, .ref gdq, .ref gdr])), (gdq, .inl (cQ, 20, .inr (.inr (.inr (.inr (qf gQ 20)))))), (gdr, .inl (cI, 20, .inl (fun _ => 0))), (gsh, .inr (9, [.int 0, .ref gst, .ref gss, .ref gsp])), (gst, .inl (cM, 160, .inr (.inr (.inr (.inr (fun _ => none)))))), (gss, .inl (cI, 160, .inl (fun _ => 0))), (gsp, .inl (cI, 160, .inl (fun _ => 0))), (gmi, .inr (5, [.int 0, .int 0, .ref gma, .ref gmb, .ref gmc, .ref gmd, .ref gmm])), (gma, .inl (cI, 120, .inl (fun _ => 0))), (gmb, .inl (cI, 120, .inl (fun _ => 0))), (gmc, .inl (cI, 120, .inl (fun _ => 0))), (gmd, .inl (cI, 120, .inl (fun _ => 0))), (gmm, .inl (cM, 120, .inr (.inr (.inr (.inr (fun _ => none)))))), (gba, .inr (0, [.int 0, .int 0, .int 0, .ref gby, .ref gbn, .int 0, .int 0, .int 0, .int 0, .int 0, .int 99, .int 0, .int 0])), (gby, .inl (cI, 40, .inl (fun _ => 0))), (gbn, .inl (cI, 40, .inl (fun _ => 0))), (gde, .inr (1, [.int (-5), .int 0, .int 0])), (gbu, .inr (10, [.int 0, .ref gbc])), (gbc, .inl (cI, 8, .inl (fun _ => 0)))] ++ (qsW cI gQ 20))) (va_A [(h0, .inr (4, [.null, .null, .null, .null, .null, .null, .null, .int 0, .int 0, .null, .int 0, .int 0, .int 0]))] sz)) 122 1810 (va_A [(h0, .inr (4, [.null, .null, .null, .null, .null, .null, .null, .int 0, .int 0, .null, .int 0, .int 0, .int 0]))] sz) := by
  sorry
