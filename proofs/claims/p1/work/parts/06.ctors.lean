/-- the cells of a question: its object, its text and first text with their rows -/
abbrev QB : Type := Nat × Nat × Nat × Nat × Nat
def qb (cI : ClassId) (z : QB) : va_W := [(z.1, .inr (7, [.ref z.2.1, .ref z.2.2.2.1, .int 0, .int 0, .int 0, .int 0, .int 0])), (z.2.1, .inr (10, [.int 0, .ref z.2.2.1])), (z.2.2.1, .inl (cI, 8, .inl (fun _ => 0))), (z.2.2.2.1, .inr (10, [.int 0, .ref z.2.2.2.2])), (z.2.2.2.2, .inl (cI, 8, .inl (fun _ => 0)))]
def qsW (cI : ClassId) (Q : Nat → QB) (n : Nat) : va_W := (List.range n).flatMap (fun k => qb cI (Q k))
def qf (Q : Nat → QB) (n : Nat) : Nat → Option Nat := fun k => if k < n then some (Q k).1 else none
theorem qsW_0 (cI : ClassId) (Q : Nat → QB) : qsW cI Q 0 = [] := rfl
theorem qsW_succ (cI : ClassId) (Q : Nat → QB) (n : Nat) : qsW cI Q (n + 1) = qsW cI Q n ++ qb cI (Q n) := by
  unfold qsW
  rw [List.range_succ, List.flatMap_append]
  simp
theorem qsW_congr (cI : ClassId) {Q Q' : Nat → QB} {n : Nat} (h : ∀ k, k < n → Q k = Q' k) : qsW cI Q n = qsW cI Q' n := by
  induction n with
  | zero => rfl
  | succ n ih => rw [qsW_succ, qsW_succ, ih (fun k hk => h k (by omega)), h n (by omega)]
theorem qsW_up (cI : ClassId) (Q : Nat → QB) (n : Nat) (z : QB) : qsW cI (va_up Q n z) (n + 1) = qsW cI Q n ++ qb cI z := by
  rw [qsW_succ, va_up_self, qsW_congr cI (fun k hk => va_up_ne Q z (by omega))]
theorem qf_up (Q : Nat → QB) (n : Nat) (z : QB) : va_up (qf Q n) n (some z.1) = qf (va_up Q n z) (n + 1) := by
  funext k
  by_cases hk : k = n
  · subst hk
    rw [va_up_self]
    unfold qf
    rw [if_pos (by omega), va_up_self]
  · rw [va_up_ne _ _ hk]
    unfold qf
    rw [va_up_ne _ _ hk]
    by_cases h : k < n
    · rw [if_pos h, if_pos (by omega)]
    · rw [if_neg h, if_neg (by omega)]
theorem qf_0 (Q : Nat → QB) : (fun _ => none) = qf Q 0 := by
  funext k
  unfold qf
  rw [if_neg (by omega)]
theorem qsW_mem {cI : ClassId} {Q : Nat → QB} {n k : Nat} (hk : k < n) : ∀ q ∈ qb cI (Q k), q ∈ qsW cI Q n := fun q hq => List.mem_flatMap.mpr ⟨k, List.mem_range.mpr hk, hq⟩
theorem dX10_init_0 : decode cX10_init 0 = .ok (.aload_n 0, 1) := by decide +kernel
theorem dX10_init_1 : decode cX10_init 1 = .ok (.invokespecial 3, 3) := by decide +kernel
theorem dX10_init_4 : decode cX10_init 4 = .ok (.aload_n 0, 1) := by decide +kernel
theorem dX10_init_5 : decode cX10_init 5 = .ok (.bipush 8, 2) := by decide +kernel
theorem dX10_init_7 : decode cX10_init 7 = .ok (.newarray .int, 2) := by decide +kernel
theorem dX10_init_9 : decode cX10_init 9 = .ok (.putfield 9, 3) := by decide +kernel
theorem dX10_init_12 : decode cX10_init 12 = .ok (.return_, 1) := by decide +kernel
set_option maxRecDepth 100000 in
theorem q_144 : (.fieldLink RX10 9 "AssemblyChair$Text" "clauses" "[I") ∈ lw_all := List.mem_filter.mpr ⟨List.mem_of_getElem? (i := 144) (by decide +kernel), by decide +kernel⟩
set_option maxRecDepth 100000 in
theorem q_140 : (.methodLink RX10 3 objectInit) ∈ lw_all := List.mem_filter.mpr ⟨List.mem_of_getElem? (i := 140) (by decide +kernel), by decide +kernel⟩
set_option maxHeartbeats 4000000 in
set_option maxRecDepth 100000 in
theorem c_X10_init (l : Launch) (D : va_G) (cI cQ cM cR : ClassId) (h0 : Nat) (sz : Nat) : Met l yX10_init (ws_ yX10_init cX10_init 1 none) ({ frames := 1, cells := 1, slots := 8, locals := 12 }) (PW D cI cQ cM cR [.ref h0] [(h0, .inr (10, [.int 0, .null]))] sz) (va_Qv (fun _ => True) (fun (_ : Unit) (t : State) => ∃ ga : Nat, va_P D vwCl [(h0, .inr (10, [.int 0, .ref ga])), (ga, .inl (cI, 8, .inl (fun _ => 0)))] t.heap ∧ va_D (va_A [(h0, .inr (10, [.int 0, .null]))] sz) [(h0, .inr (10, [.int 0, .ref ga])), (ga, .inl (cI, 8, .inl (fun _ => 0)))]) (va_A [(h0, .inr (10, [.int 0, .null]))] sz)) 1 8 (va_A [(h0, .inr (10, [.int 0, .null]))] sz) := by
  sorry
theorem dX8_init_0 : decode cX8_init 0 = .ok (.aload_n 0, 1) := by decide +kernel
theorem dX8_init_1 : decode cX8_init 1 = .ok (.invokespecial 3, 3) := by decide +kernel
theorem dX8_init_4 : decode cX8_init 4 = .ok (.aload_n 0, 1) := by decide +kernel
theorem dX8_init_5 : decode cX8_init 5 = .ok (.bipush 40, 2) := by decide +kernel
theorem dX8_init_7 : decode cX8_init 7 = .ok (.newarray .int, 2) := by decide +kernel
theorem dX8_init_9 : decode cX8_init 9 = .ok (.putfield 9, 3) := by decide +kernel
theorem dX8_init_12 : decode cX8_init 12 = .ok (.return_, 1) := by decide +kernel
set_option maxRecDepth 100000 in
theorem q_403 : (.fieldLink RX8 9 "AssemblyChair$Row" "values" "[I") ∈ lw_all := List.mem_filter.mpr ⟨List.mem_of_getElem? (i := 403) (by decide +kernel), by decide +kernel⟩
set_option maxRecDepth 100000 in
theorem q_398 : (.methodLink RX8 3 objectInit) ∈ lw_all := List.mem_filter.mpr ⟨List.mem_of_getElem? (i := 398) (by decide +kernel), by decide +kernel⟩
set_option maxHeartbeats 4000000 in
set_option maxRecDepth 100000 in
theorem c_X8_init (l : Launch) (D : va_G) (cI cQ cM cR : ClassId) (h0 : Nat) (sz : Nat) : Met l yX8_init (ws_ yX8_init cX8_init 1 none) ({ frames := 1, cells := 1, slots := 40, locals := 12 }) (PW D cI cQ cM cR [.ref h0] [(h0, .inr (8, [.int 0, .int 0, .null]))] sz) (va_Qv (fun _ => True) (fun (_ : Unit) (t : State) => ∃ ga : Nat, va_P D vwCl [(h0, .inr (8, [.int 0, .int 0, .ref ga])), (ga, .inl (cI, 40, .inl (fun _ => 0)))] t.heap ∧ va_D (va_A [(h0, .inr (8, [.int 0, .int 0, .null]))] sz) [(h0, .inr (8, [.int 0, .int 0, .ref ga])), (ga, .inl (cI, 40, .inl (fun _ => 0)))]) (va_A [(h0, .inr (8, [.int 0, .int 0, .null]))] sz)) 1 40 (va_A [(h0, .inr (8, [.int 0, .int 0, .null]))] sz) := by
  sorry
theorem dX1_init_0 : decode cX1_init 0 = .ok (.aload_n 0, 1) := by decide +kernel
theorem dX1_init_1 : decode cX1_init 1 = .ok (.invokespecial 3, 3) := by decide +kernel
theorem dX1_init_4 : decode cX1_init 4 = .ok (.aload_n 0, 1) := by decide +kernel
theorem dX1_init_5 : decode cX1_init 5 = .ok (.bipush (-5), 2) := by decide +kernel
theorem dX1_init_7 : decode cX1_init 7 = .ok (.putfield 9, 3) := by decide +kernel
theorem dX1_init_10 : decode cX1_init 10 = .ok (.return_, 1) := by decide +kernel
set_option maxRecDepth 100000 in
theorem q_322 : (.fieldLink RX1 9 "AssemblyChair$Debate" "speechesLeft" "I") ∈ lw_all := List.mem_filter.mpr ⟨List.mem_of_getElem? (i := 322) (by decide +kernel), by decide +kernel⟩
set_option maxRecDepth 100000 in
theorem q_321 : (.methodLink RX1 3 objectInit) ∈ lw_all := List.mem_filter.mpr ⟨List.mem_of_getElem? (i := 321) (by decide +kernel), by decide +kernel⟩
set_option maxHeartbeats 4000000 in
set_option maxRecDepth 100000 in
theorem c_X1_init (l : Launch) (D : va_G) (cI cQ cM cR : ClassId) (h0 : Nat) (sz : Nat) : Met l yX1_init (ws_ yX1_init cX1_init 1 none) ({ frames := 1, cells := 0, slots := 0, locals := 12 }) (PW D cI cQ cM cR [.ref h0] [(h0, .inr (1, [.int 0, .int 0, .int 0]))] sz) (va_Qv (fun _ => True) (fun (_ : Unit) (t : State) => va_P D vwCl [(h0, .inr (1, [.int (-5), .int 0, .int 0]))] t.heap ∧ va_D (va_A [(h0, .inr (1, [.int 0, .int 0, .int 0]))] sz) [(h0, .inr (1, [.int (-5), .int 0, .int 0]))]) (va_A [(h0, .inr (1, [.int 0, .int 0, .int 0]))] sz)) 0 0 (va_A [(h0, .inr (1, [.int 0, .int 0, .int 0]))] sz) := by
  sorry
theorem dX0_init_0 : decode cX0_init 0 = .ok (.aload_n 0, 1) := by decide +kernel
theorem dX0_init_1 : decode cX0_init 1 = .ok (.invokespecial 3, 3) := by decide +kernel
theorem dX0_init_4 : decode cX0_init 4 = .ok (.aload_n 0, 1) := by decide +kernel
theorem dX0_init_5 : decode cX0_init 5 = .ok (.bipush 40, 2) := by decide +kernel
theorem dX0_init_7 : decode cX0_init 7 = .ok (.newarray .int, 2) := by decide +kernel
theorem dX0_init_9 : decode cX0_init 9 = .ok (.putfield 9, 3) := by decide +kernel
theorem dX0_init_12 : decode cX0_init 12 = .ok (.aload_n 0, 1) := by decide +kernel
theorem dX0_init_13 : decode cX0_init 13 = .ok (.bipush 40, 2) := by decide +kernel
theorem dX0_init_15 : decode cX0_init 15 = .ok (.newarray .int, 2) := by decide +kernel
theorem dX0_init_17 : decode cX0_init 17 = .ok (.putfield 15, 3) := by decide +kernel
theorem dX0_init_20 : decode cX0_init 20 = .ok (.aload_n 0, 1) := by decide +kernel
theorem dX0_init_21 : decode cX0_init 21 = .ok (.bipush 99, 2) := by decide +kernel
theorem dX0_init_23 : decode cX0_init 23 = .ok (.putfield 18, 3) := by decide +kernel
theorem dX0_init_26 : decode cX0_init 26 = .ok (.return_, 1) := by decide +kernel
set_option maxRecDepth 100000 in
theorem q_272 : (.fieldLink RX0 15 "AssemblyChair$Ballots" "no" "[I") ∈ lw_all := List.mem_filter.mpr ⟨List.mem_of_getElem? (i := 272) (by decide +kernel), by decide +kernel⟩
set_option maxRecDepth 100000 in
theorem q_284 : (.fieldLink RX0 18 "AssemblyChair$Ballots" "mainQuestion" "I") ∈ lw_all := List.mem_filter.mpr ⟨List.mem_of_getElem? (i := 284) (by decide +kernel), by decide +kernel⟩
set_option maxRecDepth 100000 in
theorem q_270 : (.fieldLink RX0 9 "AssemblyChair$Ballots" "yes" "[I") ∈ lw_all := List.mem_filter.mpr ⟨List.mem_of_getElem? (i := 270) (by decide +kernel), by decide +kernel⟩
set_option maxRecDepth 100000 in
theorem q_263 : (.methodLink RX0 3 objectInit) ∈ lw_all := List.mem_filter.mpr ⟨List.mem_of_getElem? (i := 263) (by decide +kernel), by decide +kernel⟩
set_option maxHeartbeats 4000000 in
set_option maxRecDepth 100000 in
theorem c_X0_init (l : Launch) (D : va_G) (cI cQ cM cR : ClassId) (h0 : Nat) (sz : Nat) : Met l yX0_init (ws_ yX0_init cX0_init 1 none) ({ frames := 1, cells := 2, slots := 80, locals := 12 }) (PW D cI cQ cM cR [.ref h0] [(h0, .inr (0, [.int 0, .int 0, .int 0, .null, .null, .int 0, .int 0, .int 0, .int 0, .int 0, .int 0, .int 0, .int 0]))] sz) (va_Qv (fun _ => True) (fun (_ : Unit) (t : State) => ∃ gby : Nat, ∃ gbn : Nat, va_P D vwCl [(h0, .inr (0, [.int 0, .int 0, .int 0, .ref gby, .ref gbn, .int 0, .int 0, .int 0, .int 0, .int 0, .int 99, .int 0, .int 0])), (gby, .inl (cI, 40, .inl (fun _ => 0))), (gbn, .inl (cI, 40, .inl (fun _ => 0)))] t.heap ∧ va_D (va_A [(h0, .inr (0, [.int 0, .int 0, .int 0, .null, .null, .int 0, .int 0, .int 0, .int 0, .int 0, .int 0, .int 0, .int 0]))] sz) [(h0, .inr (0, [.int 0, .int 0, .int 0, .ref gby, .ref gbn, .int 0, .int 0, .int 0, .int 0, .int 0, .int 99, .int 0, .int 0])), (gby, .inl (cI, 40, .inl (fun _ => 0))), (gbn, .inl (cI, 40, .inl (fun _ => 0)))]) (va_A [(h0, .inr (0, [.int 0, .int 0, .int 0, .null, .null, .int 0, .int 0, .int 0, .int 0, .int 0, .int 0, .int 0, .int 0]))] sz)) 2 80 (va_A [(h0, .inr (0, [.int 0, .int 0, .int 0, .null, .null, .int 0, .int 0, .int 0, .int 0, .int 0, .int 0, .int 0, .int 0]))] sz) := by
  sorry
theorem dX3_init_0 : decode cX3_init 0 = .ok (.aload_n 0, 1) := by decide +kernel
theorem dX3_init_1 : decode cX3_init 1 = .ok (.invokespecial 3, 3) := by decide +kernel
theorem dX3_init_4 : decode cX3_init 4 = .ok (.aload_n 0, 1) := by decide +kernel
theorem dX3_init_5 : decode cX3_init 5 = .ok (.bipush 50, 2) := by decide +kernel
theorem dX3_init_7 : decode cX3_init 7 = .ok (.putfield 9, 3) := by decide +kernel
theorem dX3_init_10 : decode cX3_init 10 = .ok (.aload_n 0, 1) := by decide +kernel
theorem dX3_init_11 : decode cX3_init 11 = .ok (.bipush 12, 2) := by decide +kernel
theorem dX3_init_13 : decode cX3_init 13 = .ok (.newarray .int, 2) := by decide +kernel
theorem dX3_init_15 : decode cX3_init 15 = .ok (.putfield 15, 3) := by decide +kernel
theorem dX3_init_18 : decode cX3_init 18 = .ok (.aload_n 0, 1) := by decide +kernel
theorem dX3_init_19 : decode cX3_init 19 = .ok (.bipush 12, 2) := by decide +kernel
theorem dX3_init_21 : decode cX3_init 21 = .ok (.newarray .int, 2) := by decide +kernel
theorem dX3_init_23 : decode cX3_init 23 = .ok (.putfield 19, 3) := by decide +kernel
theorem dX3_init_26 : decode cX3_init 26 = .ok (.return_, 1) := by decide +kernel
set_option maxRecDepth 100000 in
theorem q_108 : (.fieldLink RX3 15 "AssemblyChair$House" "weights" "[I") ∈ lw_all := List.mem_filter.mpr ⟨List.mem_of_getElem? (i := 108) (by decide +kernel), by decide +kernel⟩
set_option maxRecDepth 100000 in
theorem q_109 : (.fieldLink RX3 19 "AssemblyChair$House" "speeches" "[I") ∈ lw_all := List.mem_filter.mpr ⟨List.mem_of_getElem? (i := 109) (by decide +kernel), by decide +kernel⟩
set_option maxRecDepth 100000 in
theorem q_103 : (.fieldLink RX3 9 "AssemblyChair$House" "percentage" "I") ∈ lw_all := List.mem_filter.mpr ⟨List.mem_of_getElem? (i := 103) (by decide +kernel), by decide +kernel⟩
set_option maxRecDepth 100000 in
theorem q_100 : (.methodLink RX3 3 objectInit) ∈ lw_all := List.mem_filter.mpr ⟨List.mem_of_getElem? (i := 100) (by decide +kernel), by decide +kernel⟩
set_option maxHeartbeats 4000000 in
set_option maxRecDepth 100000 in
theorem c_X3_init (l : Launch) (D : va_G) (cI cQ cM cR : ClassId) (h0 : Nat) (sz : Nat) : Met l yX3_init (ws_ yX3_init cX3_init 1 none) ({ frames := 1, cells := 2, slots := 24, locals := 12 }) (PW D cI cQ cM cR [.ref h0] [(h0, .inr (3, [.int 0, .int 0, .int 0, .null, .null]))] sz) (va_Qv (fun _ => True) (fun (_ : Unit) (t : State) => ∃ ghw : Nat, ∃ ghs : Nat, va_P D vwCl [(h0, .inr (3, [.int 0, .int 50, .int 0, .ref ghw, .ref ghs])), (ghw, .inl (cI, 12, .inl (fun _ => 0))), (ghs, .inl (cI, 12, .inl (fun _ => 0)))] t.heap ∧ va_D (va_A [(h0, .inr (3, [.int 0, .int 0, .int 0, .null, .null]))] sz) [(h0, .inr (3, [.int 0, .int 50, .int 0, .ref ghw, .ref ghs])), (ghw, .inl (cI, 12, .inl (fun _ => 0))), (ghs, .inl (cI, 12, .inl (fun _ => 0)))]) (va_A [(h0, .inr (3, [.int 0, .int 0, .int 0, .null, .null]))] sz)) 2 24 (va_A [(h0, .inr (3, [.int 0, .int 0, .int 0, .null, .null]))] sz) := by
  sorry
theorem dX9_init_0 : decode cX9_init 0 = .ok (.aload_n 0, 1) := by decide +kernel
theorem dX9_init_1 : decode cX9_init 1 = .ok (.invokespecial 3, 3) := by decide +kernel
theorem dX9_init_4 : decode cX9_init 4 = .ok (.aload_n 0, 1) := by decide +kernel
theorem dX9_init_5 : decode cX9_init 5 = .ok (.sipush 160, 3) := by decide +kernel
theorem dX9_init_8 : decode cX9_init 8 = .ok (.anewarray 9, 3) := by decide +kernel
theorem dX9_init_11 : decode cX9_init 11 = .ok (.putfield 11, 3) := by decide +kernel
theorem dX9_init_14 : decode cX9_init 14 = .ok (.aload_n 0, 1) := by decide +kernel
theorem dX9_init_15 : decode cX9_init 15 = .ok (.sipush 160, 3) := by decide +kernel
theorem dX9_init_18 : decode cX9_init 18 = .ok (.newarray .int, 2) := by decide +kernel
theorem dX9_init_20 : decode cX9_init 20 = .ok (.putfield 17, 3) := by decide +kernel
theorem dX9_init_23 : decode cX9_init 23 = .ok (.aload_n 0, 1) := by decide +kernel
theorem dX9_init_24 : decode cX9_init 24 = .ok (.sipush 160, 3) := by decide +kernel
theorem dX9_init_27 : decode cX9_init 27 = .ok (.newarray .int, 2) := by decide +kernel
theorem dX9_init_29 : decode cX9_init 29 = .ok (.putfield 21, 3) := by decide +kernel
theorem dX9_init_32 : decode cX9_init 32 = .ok (.return_, 1) := by decide +kernel
set_option maxRecDepth 100000 in
theorem q_208 : (.classLink RX9 9 RX6) ∈ lw_all := List.mem_filter.mpr ⟨List.mem_of_getElem? (i := 208) (by decide +kernel), by decide +kernel⟩
set_option maxRecDepth 100000 in
theorem q_211 : (.fieldLink RX9 11 "AssemblyChair$Shelf" "tops" "[LAssemblyChair$Motion;") ∈ lw_all := List.mem_filter.mpr ⟨List.mem_of_getElem? (i := 211) (by decide +kernel), by decide +kernel⟩
set_option maxRecDepth 100000 in
theorem q_212 : (.fieldLink RX9 17 "AssemblyChair$Shelf" "states" "[I") ∈ lw_all := List.mem_filter.mpr ⟨List.mem_of_getElem? (i := 212) (by decide +kernel), by decide +kernel⟩
set_option maxRecDepth 100000 in
theorem q_213 : (.fieldLink RX9 21 "AssemblyChair$Shelf" "places" "[I") ∈ lw_all := List.mem_filter.mpr ⟨List.mem_of_getElem? (i := 213) (by decide +kernel), by decide +kernel⟩
set_option maxRecDepth 100000 in
theorem q_207 : (.methodLink RX9 3 objectInit) ∈ lw_all := List.mem_filter.mpr ⟨List.mem_of_getElem? (i := 207) (by decide +kernel), by decide +kernel⟩
set_option maxHeartbeats 4000000 in
set_option maxRecDepth 100000 in
theorem c_X9_init (l : Launch) (D : va_G) (cI cQ cM cR : ClassId) (h0 : Nat) (sz : Nat) : Met l yX9_init (ws_ yX9_init cX9_init 1 none) ({ frames := 1, cells := 3, slots := 480, locals := 12 }) (PWN D cI cQ cM cR [.ref h0] [(h0, .inr (9, [.int 0, .null, .null, .null]))] sz) (va_Qv (fun _ => True) (fun (_ : Unit) (t : State) => ∃ gst : Nat, ∃ gss : Nat, ∃ gsp : Nat, va_P D vwCl [(h0, .inr (9, [.int 0, .ref gst, .ref gss, .ref gsp])), (gst, .inl (cM, 160, .inr (.inr (.inr (.inr (fun _ => none)))))), (gss, .inl (cI, 160, .inl (fun _ => 0))), (gsp, .inl (cI, 160, .inl (fun _ => 0)))] t.heap ∧ va_D (va_A [(h0, .inr (9, [.int 0, .null, .null, .null]))] sz) [(h0, .inr (9, [.int 0, .ref gst, .ref gss, .ref gsp])), (gst, .inl (cM, 160, .inr (.inr (.inr (.inr (fun _ => none)))))), (gss, .inl (cI, 160, .inl (fun _ => 0))), (gsp, .inl (cI, 160, .inl (fun _ => 0)))]) (va_A [(h0, .inr (9, [.int 0, .null, .null, .null]))] sz)) 3 480 (va_A [(h0, .inr (9, [.int 0, .null, .null, .null]))] sz) := by
  sorry
theorem dX5_init_0 : decode cX5_init 0 = .ok (.aload_n 0, 1) := by decide +kernel
theorem dX5_init_1 : decode cX5_init 1 = .ok (.invokespecial 3, 3) := by decide +kernel
theorem dX5_init_4 : decode cX5_init 4 = .ok (.aload_n 0, 1) := by decide +kernel
theorem dX5_init_5 : decode cX5_init 5 = .ok (.bipush 120, 2) := by decide +kernel
theorem dX5_init_7 : decode cX5_init 7 = .ok (.newarray .int, 2) := by decide +kernel
theorem dX5_init_9 : decode cX5_init 9 = .ok (.putfield 9, 3) := by decide +kernel
theorem dX5_init_12 : decode cX5_init 12 = .ok (.aload_n 0, 1) := by decide +kernel
theorem dX5_init_13 : decode cX5_init 13 = .ok (.bipush 120, 2) := by decide +kernel
theorem dX5_init_15 : decode cX5_init 15 = .ok (.newarray .int, 2) := by decide +kernel
theorem dX5_init_17 : decode cX5_init 17 = .ok (.putfield 15, 3) := by decide +kernel
theorem dX5_init_20 : decode cX5_init 20 = .ok (.aload_n 0, 1) := by decide +kernel
theorem dX5_init_21 : decode cX5_init 21 = .ok (.bipush 120, 2) := by decide +kernel
theorem dX5_init_23 : decode cX5_init 23 = .ok (.newarray .int, 2) := by decide +kernel
theorem dX5_init_25 : decode cX5_init 25 = .ok (.putfield 18, 3) := by decide +kernel
theorem dX5_init_28 : decode cX5_init 28 = .ok (.aload_n 0, 1) := by decide +kernel
theorem dX5_init_29 : decode cX5_init 29 = .ok (.bipush 120, 2) := by decide +kernel
theorem dX5_init_31 : decode cX5_init 31 = .ok (.newarray .int, 2) := by decide +kernel
theorem dX5_init_33 : decode cX5_init 33 = .ok (.putfield 21, 3) := by decide +kernel
theorem dX5_init_36 : decode cX5_init 36 = .ok (.aload_n 0, 1) := by decide +kernel
theorem dX5_init_37 : decode cX5_init 37 = .ok (.bipush 120, 2) := by decide +kernel
theorem dX5_init_39 : decode cX5_init 39 = .ok (.anewarray 24, 3) := by decide +kernel
theorem dX5_init_42 : decode cX5_init 42 = .ok (.putfield 26, 3) := by decide +kernel
theorem dX5_init_45 : decode cX5_init 45 = .ok (.return_, 1) := by decide +kernel
set_option maxRecDepth 100000 in
theorem q_229 : (.classLink RX5 24 RX6) ∈ lw_all := List.mem_filter.mpr ⟨List.mem_of_getElem? (i := 229) (by decide +kernel), by decide +kernel⟩
set_option maxRecDepth 100000 in
theorem q_236 : (.fieldLink RX5 15 "AssemblyChair$Minutes" "kind" "[I") ∈ lw_all := List.mem_filter.mpr ⟨List.mem_of_getElem? (i := 236) (by decide +kernel), by decide +kernel⟩
set_option maxRecDepth 100000 in
theorem q_238 : (.fieldLink RX5 18 "AssemblyChair$Minutes" "delegate" "[I") ∈ lw_all := List.mem_filter.mpr ⟨List.mem_of_getElem? (i := 238) (by decide +kernel), by decide +kernel⟩
set_option maxRecDepth 100000 in
theorem q_240 : (.fieldLink RX5 21 "AssemblyChair$Minutes" "number" "[I") ∈ lw_all := List.mem_filter.mpr ⟨List.mem_of_getElem? (i := 240) (by decide +kernel), by decide +kernel⟩
set_option maxRecDepth 100000 in
theorem q_242 : (.fieldLink RX5 26 "AssemblyChair$Minutes" "motions" "[LAssemblyChair$Motion;") ∈ lw_all := List.mem_filter.mpr ⟨List.mem_of_getElem? (i := 242) (by decide +kernel), by decide +kernel⟩
set_option maxRecDepth 100000 in
theorem q_234 : (.fieldLink RX5 9 "AssemblyChair$Minutes" "minute" "[I") ∈ lw_all := List.mem_filter.mpr ⟨List.mem_of_getElem? (i := 234) (by decide +kernel), by decide +kernel⟩
set_option maxRecDepth 100000 in
theorem q_228 : (.methodLink RX5 3 objectInit) ∈ lw_all := List.mem_filter.mpr ⟨List.mem_of_getElem? (i := 228) (by decide +kernel), by decide +kernel⟩
set_option maxHeartbeats 4000000 in
set_option maxRecDepth 100000 in
theorem c_X5_init (l : Launch) (D : va_G) (cI cQ cM cR : ClassId) (h0 : Nat) (sz : Nat) : Met l yX5_init (ws_ yX5_init cX5_init 1 none) ({ frames := 1, cells := 5, slots := 600, locals := 12 }) (PWN D cI cQ cM cR [.ref h0] [(h0, .inr (5, [.int 0, .int 0, .null, .null, .null, .null, .null]))] sz) (va_Qv (fun _ => True) (fun (_ : Unit) (t : State) => ∃ gma : Nat, ∃ gmb : Nat, ∃ gmc : Nat, ∃ gmd : Nat, ∃ gmm : Nat, va_P D vwCl [(h0, .inr (5, [.int 0, .int 0, .ref gma, .ref gmb, .ref gmc, .ref gmd, .ref gmm])), (gma, .inl (cI, 120, .inl (fun _ => 0))), (gmb, .inl (cI, 120, .inl (fun _ => 0))), (gmc, .inl (cI, 120, .inl (fun _ => 0))), (gmd, .inl (cI, 120, .inl (fun _ => 0))), (gmm, .inl (cM, 120, .inr (.inr (.inr (.inr (fun _ => none))))))] t.heap ∧ va_D (va_A [(h0, .inr (5, [.int 0, .int 0, .null, .null, .null, .null, .null]))] sz) [(h0, .inr (5, [.int 0, .int 0, .ref gma, .ref gmb, .ref gmc, .ref gmd, .ref gmm])), (gma, .inl (cI, 120, .inl (fun _ => 0))), (gmb, .inl (cI, 120, .inl (fun _ => 0))), (gmc, .inl (cI, 120, .inl (fun _ => 0))), (gmd, .inl (cI, 120, .inl (fun _ => 0))), (gmm, .inl (cM, 120, .inr (.inr (.inr (.inr (fun _ => none))))))]) (va_A [(h0, .inr (5, [.int 0, .int 0, .null, .null, .null, .null, .null]))] sz)) 5 600 (va_A [(h0, .inr (5, [.int 0, .int 0, .null, .null, .null, .null, .null]))] sz) := by
  sorry
theorem dX7_init_0 : decode cX7_init 0 = .ok (.aload_n 0, 1) := by decide +kernel
theorem dX7_init_1 : decode cX7_init 1 = .ok (.invokespecial 3, 3) := by decide +kernel
theorem dX7_init_4 : decode cX7_init 4 = .ok (.aload_n 0, 1) := by decide +kernel
theorem dX7_init_5 : decode cX7_init 5 = .ok (.new 9, 3) := by decide +kernel
theorem dX7_init_8 : decode cX7_init 8 = .ok (.dup, 1) := by decide +kernel
theorem dX7_init_9 : decode cX7_init 9 = .ok (.invokespecial 11, 3) := by decide +kernel
theorem dX7_init_12 : decode cX7_init 12 = .ok (.putfield 12, 3) := by decide +kernel
theorem dX7_init_15 : decode cX7_init 15 = .ok (.aload_n 0, 1) := by decide +kernel
theorem dX7_init_16 : decode cX7_init 16 = .ok (.new 9, 3) := by decide +kernel
theorem dX7_init_19 : decode cX7_init 19 = .ok (.dup, 1) := by decide +kernel
theorem dX7_init_20 : decode cX7_init 20 = .ok (.invokespecial 11, 3) := by decide +kernel
theorem dX7_init_23 : decode cX7_init 23 = .ok (.putfield 18, 3) := by decide +kernel
theorem dX7_init_26 : decode cX7_init 26 = .ok (.return_, 1) := by decide +kernel
set_option maxRecDepth 100000 in
theorem q_135 : (.classLink RX7 9 RX10) ∈ lw_all := List.mem_filter.mpr ⟨List.mem_of_getElem? (i := 135) (by decide +kernel), by decide +kernel⟩
set_option maxRecDepth 100000 in
theorem q_139 : (.code yX10_init cX10_init 1 none) ∈ lw_all := List.mem_filter.mpr ⟨List.mem_of_getElem? (i := 139) (rfl), by decide +kernel⟩
set_option maxRecDepth 100000 in
theorem q_150 : (.fieldLink RX7 12 "AssemblyChair$Question" "text" "LAssemblyChair$Text;") ∈ lw_all := List.mem_filter.mpr ⟨List.mem_of_getElem? (i := 150) (by decide +kernel), by decide +kernel⟩
set_option maxRecDepth 100000 in
theorem q_153 : (.fieldLink RX7 18 "AssemblyChair$Question" "first" "LAssemblyChair$Text;") ∈ lw_all := List.mem_filter.mpr ⟨List.mem_of_getElem? (i := 153) (by decide +kernel), by decide +kernel⟩
set_option maxRecDepth 100000 in
theorem q_70 : (.initialized RX10) ∈ lw_all := List.mem_filter.mpr ⟨List.mem_of_getElem? (i := 70) (by decide +kernel), by decide +kernel⟩
set_option maxRecDepth 100000 in
theorem q_138 : (.instanceMethod yX10_init) ∈ lw_all := List.mem_filter.mpr ⟨List.mem_of_getElem? (i := 138) (by decide +kernel), by decide +kernel⟩
set_option maxRecDepth 100000 in
theorem q_136 : (.instantiable RX10 2) ∈ lw_all := List.mem_filter.mpr ⟨List.mem_of_getElem? (i := 136) (by decide +kernel), by decide +kernel⟩
set_option maxRecDepth 100000 in
theorem q_134 : (.methodLink RX7 3 objectInit) ∈ lw_all := List.mem_filter.mpr ⟨List.mem_of_getElem? (i := 134) (by decide +kernel), by decide +kernel⟩
set_option maxHeartbeats 4000000 in
set_option maxRecDepth 100000 in
theorem c_X7_init (l : Launch) (D : va_G) (cI cQ cM cR : ClassId) (h0 : Nat) (sz : Nat) : Met l yX7_init (ws_ yX7_init cX7_init 1 none) ({ frames := 2, cells := 4, slots := 20, locals := 32 }) (PWN D cI cQ cM cR [.ref h0] [(h0, .inr (7, [.null, .null, .int 0, .int 0, .int 0, .int 0, .int 0]))] sz) (va_Qv (fun _ => True) (fun (_ : Unit) (t : State) => ∃ gt : Nat, ∃ gta : Nat, ∃ gf : Nat, ∃ gfa : Nat, va_P D vwCl [(h0, .inr (7, [.ref gt, .ref gf, .int 0, .int 0, .int 0, .int 0, .int 0])), (gt, .inr (10, [.int 0, .ref gta])), (gta, .inl (cI, 8, .inl (fun _ => 0))), (gf, .inr (10, [.int 0, .ref gfa])), (gfa, .inl (cI, 8, .inl (fun _ => 0)))] t.heap ∧ va_D (va_A [(h0, .inr (7, [.null, .null, .int 0, .int 0, .int 0, .int 0, .int 0]))] sz) [(h0, .inr (7, [.ref gt, .ref gf, .int 0, .int 0, .int 0, .int 0, .int 0])), (gt, .inr (10, [.int 0, .ref gta])), (gta, .inl (cI, 8, .inl (fun _ => 0))), (gf, .inr (10, [.int 0, .ref gfa])), (gfa, .inl (cI, 8, .inl (fun _ => 0)))]) (va_A [(h0, .inr (7, [.null, .null, .int 0, .int 0, .int 0, .int 0, .int 0]))] sz)) 4 20 (va_A [(h0, .inr (7, [.null, .null, .int 0, .int 0, .int 0, .int 0, .int 0]))] sz) := by
  sorry
