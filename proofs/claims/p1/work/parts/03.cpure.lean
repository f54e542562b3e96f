/-! what the calls answer on a fresh object -/
def btw (v lo hi : Int32) : Int32 := if v < lo then 0 else if hi < v then 0 else 1
def rowi (v : Int32) : Int32 := if v < 0 then 0 else if 4 ≤ v then 0 else 1
def bitv (v : Int32) : Int32 := if v = 0 then 0 else 1
def sp_report (v : Int32) : Int32 := if v < 0 then -1 else if v < 4 then -3 else -1
def sp_m1 (v : Int32) : Int32 := if v = -1 then 0 else -1
def sp_decide (y n : Int32) : Int32 := if y = 0 ∧ n = 0 then -3 else -2
def sp_store (r w e : Int32) : Int32 := if rowi r = 0 then -1 else if w = 0 ∨ w = 1 then (if e = 0 ∨ e = 1 then -3 else -2) else -1
def sp_two (f t : Int32) : Int32 := if rowi f = 0 then -1 else if rowi t = 0 then -1 else -3
def sp_count (v : Int32) : Int32 := if v < 0 then -1 else if 18 < v then -1 else if v = 1 then 1 else if v = 11 then -5 else 0
theorem btw_01 (w : Int32) : (btw w 0 1 = 0) ↔ ¬ (w = 0 ∨ w = 1) := by
  constructor
  · intro h hw
    rcases hw with rfl | rfl <;> revert h <;> decide
  · intro h
    unfold btw
    by_cases h1 : w < 0
    · rw [if_pos h1]
    · rw [if_neg h1]
      by_cases h2 : (1 : Int32) < w
      · rw [if_pos h2]
      · exfalso
        have e1 : ¬ w.toInt < 0 := fun z => h1 (Int32.lt_iff_toInt_lt.mpr z)
        have e2 : ¬ 1 < w.toInt := fun z => h2 (Int32.lt_iff_toInt_lt.mpr z)
        have e3 : w.toInt = 0 ∨ w.toInt = 1 := by omega
        rcases e3 with e3 | e3
        · exact h (Or.inl (Int32.toInt_inj.mp e3))
        · exact h (Or.inr (Int32.toInt_inj.mp e3))
theorem btw_none (v : Int32) : btw v 0 (-1) = 0 := by
  unfold btw
  by_cases h1 : v < 0
  · rw [if_pos h1]
  · rw [if_neg h1]
    have e1 : ¬ v.toInt < 0 := fun z => h1 (Int32.lt_iff_toInt_lt.mpr z)
    have h2 : (-1 : Int32) < v := Int32.lt_iff_toInt_lt.mpr (show (-1 : Int) < v.toInt by omega)
    rw [if_pos h2]
theorem btw_lt {v lo : Int32} (hi : Int32) (h : v < lo) : btw v lo hi = 0 := by
  unfold btw
  rw [if_pos h]
theorem btw_gt {v hi : Int32} (lo : Int32) (h : hi < v) : btw v lo hi = 0 := by
  unfold btw
  by_cases h1 : v < lo
  · rw [if_pos h1]
  · rw [if_neg h1, if_pos h]
theorem rowi_lt {v : Int32} (h : v < 0) : rowi v = 0 := by
  unfold rowi
  rw [if_pos h]
theorem rowi_ge {v : Int32} (h : 4 ≤ v) : rowi v = 0 := by
  unfold rowi
  by_cases h1 : v < 0
  · rw [if_pos h1]
  · rw [if_neg h1, if_pos h]
theorem row_split (v : Int32) : v < 0 ∨ 4 ≤ v ∨ v = 0 ∨ v = 1 ∨ v = 2 ∨ v = 3 := by
  rcases pk_ix v (n := 4) (by decide) with h | h | ⟨j, hj, rfl⟩
  · exact Or.inl h
  · exact Or.inr (Or.inl h)
  · refine Or.inr (Or.inr ?_)
    match j, hj with
    | 0, _ => exact Or.inl rfl
    | 1, _ => exact Or.inr (Or.inl rfl)
    | 2, _ => exact Or.inr (Or.inr (Or.inl rfl))
    | 3, _ => exact Or.inr (Or.inr (Or.inr rfl))
theorem dec_or {y n : Int32} (h : (y ||| n) &&& (-1) = 0) : y = 0 ∧ n = 0 := by
  have e : (y ||| n) &&& (-1) = y ||| n := by
    apply Int32.toBitVec_inj.mp
    show (y.toBitVec ||| n.toBitVec) &&& BitVec.allOnes 32 = _
    rw [BitVec.and_allOnes]
    rfl
  rw [e] at h
  have h2 : y.toBitVec ||| n.toBitVec = 0#32 := congrArg Int32.toBitVec h
  have h3 := BitVec.or_eq_zero_iff.mp h2
  exact ⟨Int32.toBitVec_inj.mp h3.1, Int32.toBitVec_inj.mp h3.2⟩
theorem shr_0 (y : Int32) : y >>> ((0 : Int32) &&& 31) = y := by
  apply Int32.toBitVec_inj.mp
  have e : ((0 : Int32) &&& 31) = 0 := by decide
  rw [e]
  show y.toBitVec.sshiftRight' _ = _
  simp
theorem split19 (v : Int32) : (v < 0 ∧ v.toInt < 0) ∨ (18 < v ∧ 18 < v.toInt) ∨ v = 0 ∨ v = 1 ∨ v = 2 ∨ v = 3 ∨ v = 4 ∨ v = 5 ∨ v = 6 ∨ v = 7 ∨ v = 8 ∨ v = 9 ∨ v = 10 ∨ v = 11 ∨ v = 12 ∨ v = 13 ∨ v = 14 ∨ v = 15 ∨ v = 16 ∨ v = 17 ∨ v = 18 := by
  rcases pk_ix v (n := 19) (by decide) with h | h | ⟨j, hj, rfl⟩
  · exact Or.inl ⟨h, Int32.lt_iff_toInt_lt.mp h⟩
  · have h1 : (19 : Int) ≤ v.toInt := Int32.le_iff_toInt_le.mp h
    exact Or.inr (Or.inl ⟨Int32.lt_iff_toInt_lt.mpr (show (18 : Int) < v.toInt by omega), by omega⟩)
  · refine Or.inr (Or.inr ?_)
    match j, hj with
    | 0, _ => exact Or.inl rfl
    | 1, _ => exact Or.inr (Or.inl rfl)
    | 2, _ => exact Or.inr (Or.inr (Or.inl rfl))
    | 3, _ => exact Or.inr (Or.inr (Or.inr (Or.inl rfl)))
    | 4, _ => exact Or.inr (Or.inr (Or.inr (Or.inr (Or.inl rfl))))
    | 5, _ => exact Or.inr (Or.inr (Or.inr (Or.inr (Or.inr (Or.inl rfl)))))
    | 6, _ => exact Or.inr (Or.inr (Or.inr (Or.inr (Or.inr (Or.inr (Or.inl rfl))))))
    | 7, _ => exact Or.inr (Or.inr (Or.inr (Or.inr (Or.inr (Or.inr (Or.inr (Or.inl rfl)))))))
    | 8, _ => exact Or.inr (Or.inr (Or.inr (Or.inr (Or.inr (Or.inr (Or.inr (Or.inr (Or.inl rfl))))))))
    | 9, _ => exact Or.inr (Or.inr (Or.inr (Or.inr (Or.inr (Or.inr (Or.inr (Or.inr (Or.inr (Or.inl rfl)))))))))
    | 10, _ => exact Or.inr (Or.inr (Or.inr (Or.inr (Or.inr (Or.inr (Or.inr (Or.inr (Or.inr (Or.inr (Or.inl rfl))))))))))
    | 11, _ => exact Or.inr (Or.inr (Or.inr (Or.inr (Or.inr (Or.inr (Or.inr (Or.inr (Or.inr (Or.inr (Or.inr (Or.inl rfl)))))))))))
    | 12, _ => exact Or.inr (Or.inr (Or.inr (Or.inr (Or.inr (Or.inr (Or.inr (Or.inr (Or.inr (Or.inr (Or.inr (Or.inr (Or.inl rfl))))))))))))
    | 13, _ => exact Or.inr (Or.inr (Or.inr (Or.inr (Or.inr (Or.inr (Or.inr (Or.inr (Or.inr (Or.inr (Or.inr (Or.inr (Or.inr (Or.inl rfl)))))))))))))
    | 14, _ => exact Or.inr (Or.inr (Or.inr (Or.inr (Or.inr (Or.inr (Or.inr (Or.inr (Or.inr (Or.inr (Or.inr (Or.inr (Or.inr (Or.inr (Or.inl rfl))))))))))))))
    | 15, _ => exact Or.inr (Or.inr (Or.inr (Or.inr (Or.inr (Or.inr (Or.inr (Or.inr (Or.inr (Or.inr (Or.inr (Or.inr (Or.inr (Or.inr (Or.inr (Or.inl rfl)))))))))))))))
    | 16, _ => exact Or.inr (Or.inr (Or.inr (Or.inr (Or.inr (Or.inr (Or.inr (Or.inr (Or.inr (Or.inr (Or.inr (Or.inr (Or.inr (Or.inr (Or.inr (Or.inr (Or.inl rfl))))))))))))))))
    | 17, _ => exact Or.inr (Or.inr (Or.inr (Or.inr (Or.inr (Or.inr (Or.inr (Or.inr (Or.inr (Or.inr (Or.inr (Or.inr (Or.inr (Or.inr (Or.inr (Or.inr (Or.inr (Or.inl rfl)))))))))))))))))
    | 18, _ => exact Or.inr (Or.inr (Or.inr (Or.inr (Or.inr (Or.inr (Or.inr (Or.inr (Or.inr (Or.inr (Or.inr (Or.inr (Or.inr (Or.inr (Or.inr (Or.inr (Or.inr (Or.inr (rfl))))))))))))))))))
    | j + 19, hj => exact absurd hj (by omega)
theorem sp_count_lt {v : Int32} (h : v < 0) : sp_count v = -1 := by
  unfold sp_count
  rw [if_pos h]
theorem sp_count_gt {v : Int32} (h : 18 < v) : sp_count v = -1 := by
  unfold sp_count
  by_cases h9 : v < 0
  · rw [if_pos h9]
  · rw [if_neg h9, if_pos h]
theorem dX11_bit_0 : decode cX11_bit 0 = .ok (.iload_n 0, 1) := by decide +kernel
theorem dX11_bit_1 : decode cX11_bit 1 = .ok (.ifCond .eq 7, 3) := by decide +kernel
theorem dX11_bit_4 : decode cX11_bit 4 = .ok (.iconst 1, 1) := by decide +kernel
theorem dX11_bit_5 : decode cX11_bit 5 = .ok (.goto 4, 3) := by decide +kernel
theorem dX11_bit_8 : decode cX11_bit 8 = .ok (.iconst 0, 1) := by decide +kernel
theorem dX11_bit_9 : decode cX11_bit 9 = .ok (.ireturn, 1) := by decide +kernel
set_option maxHeartbeats 4000000 in
set_option maxRecDepth 100000 in
theorem c_X11_bit (l : Launch) (D : va_G) (cI cQ cM cR : ClassId) (p0 : Int32) : Met l yX11_bit (ws_ yX11_bit cX11_bit 1 (some .int)) ({ frames := 0, cells := 0, slots := 0, locals := 0 }) (PP D cI cQ cM cR [.int p0] []) (QP (some (.int (bitv p0)))) 0 0 (fun _ => False) := by
  refine Met.ofW (cc := cX11_bit) (maxL := 1) (ret := (some .int)) (by decide) rfl ?_
  intro p e s m args below meth c s₁ B hml hv
  obtain ⟨rfl, hP, hK⟩ := hv
  have hx := B.exec
  have hb := B.bytes
  have hr := B.returns
  have hts : ∀ w ∈ lw_all, w.before _ s = true := fun w h => atoms_spec (ws := (ws_ yX11_bit cX11_bit 1 (some .int))) B.pre w (List.mem_cons_of_mem _ h)
  have hown : s.vm.findClass RX11 = some m.cls := findClass_of_methodNamed B.named
  have hlocks := B.notSynchronized
  have hP : va_P D vwCl [] s.heap := hP
  have hl := lv_entry ([.int p0]) (n := 1) (Nat.le_of_ble_eq_true rfl)
  rw [lg_entry_eq]
  generalize (lg_sl ([.int p0]) ++ List.replicate (1 - (lg_sl ([.int p0])).length) Slot.unset).toArray = ls at hl ⊢
  have hl : lv_has ls 1 [(0, .int p0)] := hl
  refine lv_iload_n hx hb dX11_bit_0 rfl (lv_at hl 0 rfl) ?_
  refine lv_if_eq (tgt := 8) hx hb dX11_bit_1 (by decide) (fun c_1 => ?_) (fun c_1 => ?_)
  · refine lv_iconst (v := 0) hx hb dX11_bit_8 (by decide) ?_
    exact W.iret hx hb hr (fun t ht hW => ⟨by first | rfl | (simp only [bitv, c_1, ↓reduceIte, if_true, if_false, not_true_eq_false, not_false_eq_true]; done) | (simp [bitv, c_1]; done), ht⟩) (fun q hq => absurd hq List.not_mem_nil) dX11_bit_9
  · refine lv_iconst (v := 1) hx hb dX11_bit_4 (by decide) ?_
    refine lv_goto (tgt := 9) hx hb dX11_bit_5 (by decide) ?_
    exact W.iret hx hb hr (fun t ht hW => ⟨by first | rfl | (simp only [bitv, c_1, ↓reduceIte, if_true, if_false, not_true_eq_false, not_false_eq_true]; done) | (simp [bitv, c_1]; done), ht⟩) (fun q hq => absurd hq List.not_mem_nil) dX11_bit_9
theorem dX11_isRow_0 : decode cX11_isRow 0 = .ok (.iload_n 0, 1) := by decide +kernel
theorem dX11_isRow_1 : decode cX11_isRow 1 = .ok (.ifCond .lt 12, 3) := by decide +kernel
theorem dX11_isRow_4 : decode cX11_isRow 4 = .ok (.iload_n 0, 1) := by decide +kernel
theorem dX11_isRow_5 : decode cX11_isRow 5 = .ok (.iconst 4, 1) := by decide +kernel
theorem dX11_isRow_6 : decode cX11_isRow 6 = .ok (.if_icmp .ge 7, 3) := by decide +kernel
theorem dX11_isRow_9 : decode cX11_isRow 9 = .ok (.iconst 1, 1) := by decide +kernel
theorem dX11_isRow_10 : decode cX11_isRow 10 = .ok (.goto 4, 3) := by decide +kernel
theorem dX11_isRow_13 : decode cX11_isRow 13 = .ok (.iconst 0, 1) := by decide +kernel
theorem dX11_isRow_14 : decode cX11_isRow 14 = .ok (.ireturn, 1) := by decide +kernel
set_option maxHeartbeats 4000000 in
set_option maxRecDepth 100000 in
theorem c_X11_isRow (l : Launch) (D : va_G) (cI cQ cM cR : ClassId) (p0 : Int32) : Met l yX11_isRow (ws_ yX11_isRow cX11_isRow 1 (some .boolean)) ({ frames := 0, cells := 0, slots := 0, locals := 0 }) (PP D cI cQ cM cR [.int p0] []) (QP (some (.int (rowi p0)))) 0 0 (fun _ => False) := by
  refine Met.ofW (cc := cX11_isRow) (maxL := 1) (ret := (some .boolean)) (by decide) rfl ?_
  intro p e s m args below meth c s₁ B hml hv
  obtain ⟨rfl, hP, hK⟩ := hv
  have hx := B.exec
  have hb := B.bytes
  have hr := B.returns
  have hts : ∀ w ∈ lw_all, w.before _ s = true := fun w h => atoms_spec (ws := (ws_ yX11_isRow cX11_isRow 1 (some .boolean))) B.pre w (List.mem_cons_of_mem _ h)
  have hown : s.vm.findClass RX11 = some m.cls := findClass_of_methodNamed B.named
  have hlocks := B.notSynchronized
  have hP : va_P D vwCl [] s.heap := hP
  have hl := lv_entry ([.int p0]) (n := 1) (Nat.le_of_ble_eq_true rfl)
  rw [lg_entry_eq]
  generalize (lg_sl ([.int p0]) ++ List.replicate (1 - (lg_sl ([.int p0])).length) Slot.unset).toArray = ls at hl ⊢
  have hl : lv_has ls 1 [(0, .int p0)] := hl
  refine lv_iload_n hx hb dX11_isRow_0 rfl (lv_at hl 0 rfl) ?_
  refine lv_if_lt (tgt := 13) hx hb dX11_isRow_1 (by decide) (fun c_1 => ?_) (fun c_1 => ?_)
  · refine lv_iconst (v := 0) hx hb dX11_isRow_13 (by decide) ?_
    exact W.zret hx hb hr rfl (fun t ht hW => ⟨by first | rfl | (simp only [rowi, c_1, ↓reduceIte, if_true, if_false, not_true_eq_false, not_false_eq_true]; done) | (simp [rowi, c_1]; done), ht⟩) (fun q hq => absurd hq List.not_mem_nil) dX11_isRow_14
  · refine lv_iload_n hx hb dX11_isRow_4 rfl (lv_at hl 0 rfl) ?_
    refine lv_iconst (v := 4) hx hb dX11_isRow_5 (by decide) ?_
    refine lv_icmp_ge (tgt := 13) hx hb dX11_isRow_6 (by decide) (fun c_2 => ?_) (fun c_2 => ?_)
    · refine lv_iconst (v := 0) hx hb dX11_isRow_13 (by decide) ?_
      exact W.zret hx hb hr rfl (fun t ht hW => ⟨by first | rfl | (simp only [rowi, c_1, c_2, ↓reduceIte, if_true, if_false, not_true_eq_false, not_false_eq_true]; done) | (simp [rowi, c_1, c_2]; done), ht⟩) (fun q hq => absurd hq List.not_mem_nil) dX11_isRow_14
    · refine lv_iconst (v := 1) hx hb dX11_isRow_9 (by decide) ?_
      refine lv_goto (tgt := 14) hx hb dX11_isRow_10 (by decide) ?_
      exact W.zret hx hb hr rfl (fun t ht hW => ⟨by first | rfl | (simp only [rowi, c_1, c_2, ↓reduceIte, if_true, if_false, not_true_eq_false, not_false_eq_true]; done) | (simp [rowi, c_1, c_2]; done), ht⟩) (fun q hq => absurd hq List.not_mem_nil) dX11_isRow_14
theorem dX3_has_0 : decode cX3_has 0 = .ok (.iload_n 1, 1) := by decide +kernel
theorem dX3_has_1 : decode cX3_has 1 = .ok (.ifCond .lt 15, 3) := by decide +kernel
theorem dX3_has_4 : decode cX3_has 4 = .ok (.iload_n 1, 1) := by decide +kernel
theorem dX3_has_5 : decode cX3_has 5 = .ok (.aload_n 0, 1) := by decide +kernel
theorem dX3_has_6 : decode cX3_has 6 = .ok (.getfield 22, 3) := by decide +kernel
theorem dX3_has_9 : decode cX3_has 9 = .ok (.if_icmp .ge 7, 3) := by decide +kernel
theorem dX3_has_16 : decode cX3_has 16 = .ok (.iconst 0, 1) := by decide +kernel
theorem dX3_has_17 : decode cX3_has 17 = .ok (.ireturn, 1) := by decide +kernel
set_option maxRecDepth 100000 in
theorem q_101 : (.fieldLink RX3 22 "AssemblyChair$House" "size" "I") ∈ lw_all := List.mem_filter.mpr ⟨List.mem_of_getElem? (i := 101) (by decide +kernel), by decide +kernel⟩
set_option maxHeartbeats 4000000 in
set_option maxRecDepth 100000 in
theorem c_X3_has (l : Launch) (D : va_G) (cI cQ cM cR : ClassId) (nho : Nat) (nhw : Nat) (nhs : Nat) (p0 : Int32) : Met l yX3_has (ws_ yX3_has cX3_has 2 (some .boolean)) ({ frames := 0, cells := 0, slots := 0, locals := 0 }) (PP D cI cQ cM cR [.ref nho, .int p0] [(nho, .inr (3, [.int 0, .int 50, .int 0, .ref nhw, .ref nhs]))]) (QP (some (.int 0))) 0 0 (fun _ => False) := by
  refine Met.ofW (cc := cX3_has) (maxL := 2) (ret := (some .boolean)) (by decide) rfl ?_
  intro p e s m args below meth c s₁ B hml hv
  obtain ⟨rfl, hP, hK⟩ := hv
  have hx := B.exec
  have hb := B.bytes
  have hr := B.returns
  have hts : ∀ w ∈ lw_all, w.before _ s = true := fun w h => atoms_spec (ws := (ws_ yX3_has cX3_has 2 (some .boolean))) B.pre w (List.mem_cons_of_mem _ h)
  have hown : s.vm.findClass RX3 = some m.cls := findClass_of_methodNamed B.named
  have hlocks := B.notSynchronized
  have hP : va_P D vwCl [(nho, .inr (3, [.int 0, .int 50, .int 0, .ref nhw, .ref nhs]))] s.heap := hP
  have hl := lv_entry ([.ref nho, .int p0]) (n := 2) (Nat.le_of_ble_eq_true rfl)
  rw [lg_entry_eq]
  generalize (lg_sl ([.ref nho, .int p0]) ++ List.replicate (2 - (lg_sl ([.ref nho, .int p0])).length) Slot.unset).toArray = ls at hl ⊢
  have hl : lv_has ls 2 [(0, .ref nho), (1, .int p0)] := hl
  refine lv_iload_n hx hb dX3_has_0 rfl (lv_at hl 1 rfl) ?_
  refine lv_if_lt (tgt := 16) hx hb dX3_has_1 (by decide) (fun c_1 => ?_) (fun c_1 => ?_)
  · refine lv_iconst (v := 0) hx hb dX3_has_16 (by decide) ?_
    exact W.zret hx hb hr rfl (fun t ht hW => ⟨rfl, ht⟩) (fun q hq => absurd hq List.not_mem_nil) dX3_has_17
  · refine lv_iload_n hx hb dX3_has_4 rfl (lv_at hl 1 rfl) ?_
    refine lv_aload_n hx hb dX3_has_5 rfl (lv_at hl 0 rfl) ?_
    refine va_get (D := D) (ci := 3) (v := .int 0) (C := RX3) (T := TX3) (N := 5) hx hb hts in_X3 hown hK hP 0 rfl rfl 0 (by decide) (hts _ q_101) (fun _ h9 => h9) rfl dX3_has_6 ?_
    refine lv_icmp_ge (tgt := 16) hx hb dX3_has_9 (by decide) (fun _ => ?_) (fun c9 => absurd (Int32.not_lt.mp c_1) c9)
    refine lv_iconst (v := 0) hx hb dX3_has_16 (by decide) ?_
    exact W.zret hx hb hr rfl (fun t ht hW => ⟨rfl, ht⟩) (fun q hq => absurd hq List.not_mem_nil) dX3_has_17
theorem dX3_everyone_0 : decode cX3_everyone 0 = .ok (.iconst 1, 1) := by decide +kernel
theorem dX3_everyone_1 : decode cX3_everyone 1 = .ok (.aload_n 0, 1) := by decide +kernel
theorem dX3_everyone_2 : decode cX3_everyone 2 = .ok (.getfield 22, 3) := by decide +kernel
theorem dX3_everyone_5 : decode cX3_everyone 5 = .ok (.ishl, 1) := by decide +kernel
theorem dX3_everyone_6 : decode cX3_everyone 6 = .ok (.iconst 1, 1) := by decide +kernel
theorem dX3_everyone_7 : decode cX3_everyone 7 = .ok (.isub, 1) := by decide +kernel
theorem dX3_everyone_8 : decode cX3_everyone 8 = .ok (.ireturn, 1) := by decide +kernel
set_option maxHeartbeats 4000000 in
set_option maxRecDepth 100000 in
theorem c_X3_everyone (l : Launch) (D : va_G) (cI cQ cM cR : ClassId) (nho : Nat) (nhw : Nat) (nhs : Nat) : Met l yX3_everyone (ws_ yX3_everyone cX3_everyone 1 (some .int)) ({ frames := 0, cells := 0, slots := 0, locals := 0 }) (PP D cI cQ cM cR [.ref nho] [(nho, .inr (3, [.int 0, .int 50, .int 0, .ref nhw, .ref nhs]))]) (QP (some (.int 0))) 0 0 (fun _ => False) := by
  refine Met.ofW (cc := cX3_everyone) (maxL := 1) (ret := (some .int)) (by decide) rfl ?_
  intro p e s m args below meth c s₁ B hml hv
  obtain ⟨rfl, hP, hK⟩ := hv
  have hx := B.exec
  have hb := B.bytes
  have hr := B.returns
  have hts : ∀ w ∈ lw_all, w.before _ s = true := fun w h => atoms_spec (ws := (ws_ yX3_everyone cX3_everyone 1 (some .int))) B.pre w (List.mem_cons_of_mem _ h)
  have hown : s.vm.findClass RX3 = some m.cls := findClass_of_methodNamed B.named
  have hlocks := B.notSynchronized
  have hP : va_P D vwCl [(nho, .inr (3, [.int 0, .int 50, .int 0, .ref nhw, .ref nhs]))] s.heap := hP
  have hl := lv_entry ([.ref nho]) (n := 1) (Nat.le_of_ble_eq_true rfl)
  rw [lg_entry_eq]
  generalize (lg_sl ([.ref nho]) ++ List.replicate (1 - (lg_sl ([.ref nho])).length) Slot.unset).toArray = ls at hl ⊢
  have hl : lv_has ls 1 [(0, .ref nho)] := hl
  refine lv_iconst (v := 1) hx hb dX3_everyone_0 (by decide) ?_
  refine lv_aload_n hx hb dX3_everyone_1 rfl (lv_at hl 0 rfl) ?_
  refine va_get (D := D) (ci := 3) (v := .int 0) (C := RX3) (T := TX3) (N := 5) hx hb hts in_X3 hown hK hP 0 rfl rfl 0 (by decide) (hts _ q_101) (fun _ h9 => h9) rfl dX3_everyone_2 ?_
  refine lv_ishl hx hb dX3_everyone_5 ?_
  refine lv_cst (v := 1) (by decide) ?_
  refine lv_iconst (v := 1) hx hb dX3_everyone_6 (by decide) ?_
  refine lv_isub hx hb dX3_everyone_7 ?_
  refine lv_cst (v := 0) (by decide) ?_
  exact W.iret hx hb hr (fun t ht hW => ⟨rfl, ht⟩) (fun q hq => absurd hq List.not_mem_nil) dX3_everyone_8
theorem dX3_weightOf_0 : decode cX3_weightOf 0 = .ok (.iconst 0, 1) := by decide +kernel
theorem dX3_weightOf_1 : decode cX3_weightOf 1 = .ok (.istore_n 2, 1) := by decide +kernel
theorem dX3_weightOf_2 : decode cX3_weightOf 2 = .ok (.iconst 0, 1) := by decide +kernel
theorem dX3_weightOf_3 : decode cX3_weightOf 3 = .ok (.istore_n 3, 1) := by decide +kernel
theorem dX3_weightOf_4 : decode cX3_weightOf 4 = .ok (.iload_n 3, 1) := by decide +kernel
theorem dX3_weightOf_5 : decode cX3_weightOf 5 = .ok (.aload_n 0, 1) := by decide +kernel
theorem dX3_weightOf_6 : decode cX3_weightOf 6 = .ok (.getfield 22, 3) := by decide +kernel
theorem dX3_weightOf_9 : decode cX3_weightOf 9 = .ok (.if_icmp .ge 30, 3) := by decide +kernel
theorem dX3_weightOf_39 : decode cX3_weightOf 39 = .ok (.iload_n 2, 1) := by decide +kernel
theorem dX3_weightOf_40 : decode cX3_weightOf 40 = .ok (.ireturn, 1) := by decide +kernel
set_option maxHeartbeats 4000000 in
set_option maxRecDepth 100000 in
theorem c_X3_weightOf (l : Launch) (D : va_G) (cI cQ cM cR : ClassId) (nho : Nat) (nhw : Nat) (nhs : Nat) (p0 : Int32) : Met l yX3_weightOf (ws_ yX3_weightOf cX3_weightOf 4 (some .int)) ({ frames := 0, cells := 0, slots := 0, locals := 0 }) (PP D cI cQ cM cR [.ref nho, .int p0] [(nho, .inr (3, [.int 0, .int 50, .int 0, .ref nhw, .ref nhs]))]) (QP (some (.int 0))) 0 0 (fun _ => False) := by
  refine Met.ofW (cc := cX3_weightOf) (maxL := 4) (ret := (some .int)) (by decide) rfl ?_
  intro p e s m args below meth c s₁ B hml hv
  obtain ⟨rfl, hP, hK⟩ := hv
  have hx := B.exec
  have hb := B.bytes
  have hr := B.returns
  have hts : ∀ w ∈ lw_all, w.before _ s = true := fun w h => atoms_spec (ws := (ws_ yX3_weightOf cX3_weightOf 4 (some .int))) B.pre w (List.mem_cons_of_mem _ h)
  have hown : s.vm.findClass RX3 = some m.cls := findClass_of_methodNamed B.named
  have hlocks := B.notSynchronized
  have hP : va_P D vwCl [(nho, .inr (3, [.int 0, .int 50, .int 0, .ref nhw, .ref nhs]))] s.heap := hP
  have hl := lv_entry ([.ref nho, .int p0]) (n := 4) (Nat.le_of_ble_eq_true rfl)
  rw [lg_entry_eq]
  generalize (lg_sl ([.ref nho, .int p0]) ++ List.replicate (4 - (lg_sl ([.ref nho, .int p0])).length) Slot.unset).toArray = ls at hl ⊢
  have hl : lv_has ls 4 [(0, .ref nho), (1, .int p0)] := hl
  refine lv_iconst (v := 0) hx hb dX3_weightOf_0 (by decide) ?_
  refine lv_istore_n (lv' := [(2, .int 0), (0, .ref nho), (1, .int p0)]) hx hb dX3_weightOf_1 rfl hl (by decide) rfl (fun ls hl => ?_)
  refine lv_iconst (v := 0) hx hb dX3_weightOf_2 (by decide) ?_
  refine lv_istore_n (lv' := [(3, .int 0), (2, .int 0), (0, .ref nho), (1, .int p0)]) hx hb dX3_weightOf_3 rfl hl (by decide) rfl (fun ls hl => ?_)
  refine lv_iload_n hx hb dX3_weightOf_4 rfl (lv_at hl 0 rfl) ?_
  refine lv_aload_n hx hb dX3_weightOf_5 rfl (lv_at hl 2 rfl) ?_
  refine va_get (D := D) (ci := 3) (v := .int 0) (C := RX3) (T := TX3) (N := 5) hx hb hts in_X3 hown hK hP 0 rfl rfl 0 (by decide) (hts _ q_101) (fun _ h9 => h9) rfl dX3_weightOf_6 ?_
  refine lv_icmp_ge (tgt := 39) hx hb dX3_weightOf_9 (by decide) (fun _ => ?_) (fun c9 => absurd (by decide) c9)
  refine lv_iload_n hx hb dX3_weightOf_39 rfl (lv_at hl 1 rfl) ?_
  exact W.iret hx hb hr (fun t ht hW => ⟨rfl, ht⟩) (fun q hq => absurd hq List.not_mem_nil) dX3_weightOf_40
theorem dX3_hasQuorum_0 : decode cX3_hasQuorum 0 = .ok (.aload_n 0, 1) := by decide +kernel
theorem dX3_hasQuorum_1 : decode cX3_hasQuorum 1 = .ok (.getfield 22, 3) := by decide +kernel
theorem dX3_hasQuorum_4 : decode cX3_hasQuorum 4 = .ok (.ifCond .le 34, 3) := by decide +kernel
theorem dX3_hasQuorum_38 : decode cX3_hasQuorum 38 = .ok (.iconst 0, 1) := by decide +kernel
theorem dX3_hasQuorum_39 : decode cX3_hasQuorum 39 = .ok (.ireturn, 1) := by decide +kernel
set_option maxHeartbeats 4000000 in
set_option maxRecDepth 100000 in
theorem c_X3_hasQuorum (l : Launch) (D : va_G) (cI cQ cM cR : ClassId) (nho : Nat) (nhw : Nat) (nhs : Nat) : Met l yX3_hasQuorum (ws_ yX3_hasQuorum cX3_hasQuorum 1 (some .boolean)) ({ frames := 0, cells := 0, slots := 0, locals := 0 }) (PP D cI cQ cM cR [.ref nho] [(nho, .inr (3, [.int 0, .int 50, .int 0, .ref nhw, .ref nhs]))]) (QP (some (.int 0))) 0 0 (fun _ => False) := by
  refine Met.ofW (cc := cX3_hasQuorum) (maxL := 1) (ret := (some .boolean)) (by decide) rfl ?_
  intro p e s m args below meth c s₁ B hml hv
  obtain ⟨rfl, hP, hK⟩ := hv
  have hx := B.exec
  have hb := B.bytes
  have hr := B.returns
  have hts : ∀ w ∈ lw_all, w.before _ s = true := fun w h => atoms_spec (ws := (ws_ yX3_hasQuorum cX3_hasQuorum 1 (some .boolean))) B.pre w (List.mem_cons_of_mem _ h)
  have hown : s.vm.findClass RX3 = some m.cls := findClass_of_methodNamed B.named
  have hlocks := B.notSynchronized
  have hP : va_P D vwCl [(nho, .inr (3, [.int 0, .int 50, .int 0, .ref nhw, .ref nhs]))] s.heap := hP
  have hl := lv_entry ([.ref nho]) (n := 1) (Nat.le_of_ble_eq_true rfl)
  rw [lg_entry_eq]
  generalize (lg_sl ([.ref nho]) ++ List.replicate (1 - (lg_sl ([.ref nho])).length) Slot.unset).toArray = ls at hl ⊢
  have hl : lv_has ls 1 [(0, .ref nho)] := hl
  refine lv_aload_n hx hb dX3_hasQuorum_0 rfl (lv_at hl 0 rfl) ?_
  refine va_get (D := D) (ci := 3) (v := .int 0) (C := RX3) (T := TX3) (N := 5) hx hb hts in_X3 hown hK hP 0 rfl rfl 0 (by decide) (hts _ q_101) (fun _ h9 => h9) rfl dX3_hasQuorum_1 ?_
  refine lv_if_le (tgt := 38) hx hb dX3_hasQuorum_4 (by decide) (fun _ => ?_) (fun c9 => absurd (by decide) c9)
  refine lv_iconst (v := 0) hx hb dX3_hasQuorum_38 (by decide) ?_
  exact W.zret hx hb hr rfl (fun t ht hW => ⟨rfl, ht⟩) (fun q hq => absurd hq List.not_mem_nil) dX3_hasQuorum_39
theorem dX2_at_0 : decode cX2_at 0 = .ok (.iload_n 1, 1) := by decide +kernel
theorem dX2_at_1 : decode cX2_at 1 = .ok (.ifCond .lt 20, 3) := by decide +kernel
theorem dX2_at_4 : decode cX2_at 4 = .ok (.iload_n 1, 1) := by decide +kernel
theorem dX2_at_5 : decode cX2_at 5 = .ok (.aload_n 0, 1) := by decide +kernel
theorem dX2_at_6 : decode cX2_at 6 = .ok (.getfield 22, 3) := by decide +kernel
theorem dX2_at_9 : decode cX2_at 9 = .ok (.if_icmp .ge 12, 3) := by decide +kernel
theorem dX2_at_21 : decode cX2_at 21 = .ok (.aconst_null, 1) := by decide +kernel
theorem dX2_at_22 : decode cX2_at 22 = .ok (.areturn, 1) := by decide +kernel
set_option maxRecDepth 100000 in
theorem q_186 : (.fieldLink RX2 22 "AssemblyChair$Docket" "size" "I") ∈ lw_all := List.mem_filter.mpr ⟨List.mem_of_getElem? (i := 186) (by decide +kernel), by decide +kernel⟩
set_option maxHeartbeats 4000000 in
set_option maxRecDepth 100000 in
theorem c_X2_at (l : Launch) (D : va_G) (cI cQ cM cR : ClassId) (ndk : Nat) (ndq : Nat) (ndr : Nat) (p0 : Int32) : Met l yX2_at (ws_ yX2_at cX2_at 2 (some (.object "AssemblyChair$Question"))) ({ frames := 0, cells := 0, slots := 0, locals := 0 }) (PP D cI cQ cM cR [.ref ndk, .int p0] [(ndk, .inr (2, [.int 0, .int 0, .ref ndq, .ref ndr]))]) (QP (some (.null))) 0 0 (fun _ => False) := by
  refine Met.ofW (cc := cX2_at) (maxL := 2) (ret := (some (.object "AssemblyChair$Question"))) (by decide) rfl ?_
  intro p e s m args below meth c s₁ B hml hv
  obtain ⟨rfl, hP, hK⟩ := hv
  have hx := B.exec
  have hb := B.bytes
  have hr := B.returns
  have hts : ∀ w ∈ lw_all, w.before _ s = true := fun w h => atoms_spec (ws := (ws_ yX2_at cX2_at 2 (some (.object "AssemblyChair$Question")))) B.pre w (List.mem_cons_of_mem _ h)
  have hown : s.vm.findClass RX2 = some m.cls := findClass_of_methodNamed B.named
  have hlocks := B.notSynchronized
  have hP : va_P D vwCl [(ndk, .inr (2, [.int 0, .int 0, .ref ndq, .ref ndr]))] s.heap := hP
  have hl := lv_entry ([.ref ndk, .int p0]) (n := 2) (Nat.le_of_ble_eq_true rfl)
  rw [lg_entry_eq]
  generalize (lg_sl ([.ref ndk, .int p0]) ++ List.replicate (2 - (lg_sl ([.ref ndk, .int p0])).length) Slot.unset).toArray = ls at hl ⊢
  have hl : lv_has ls 2 [(0, .ref ndk), (1, .int p0)] := hl
  refine lv_iload_n hx hb dX2_at_0 rfl (lv_at hl 1 rfl) ?_
  refine lv_if_lt (tgt := 21) hx hb dX2_at_1 (by decide) (fun c_1 => ?_) (fun c_1 => ?_)
  · refine lv_null hx hb dX2_at_21 ?_
    exact W.aret hx hb hr (Or.inl ⟨_, rfl⟩) (Or.inl rfl) (fun t ht hW => ⟨rfl, ht⟩) (fun q hq => absurd hq List.not_mem_nil) dX2_at_22
  · refine lv_iload_n hx hb dX2_at_4 rfl (lv_at hl 1 rfl) ?_
    refine lv_aload_n hx hb dX2_at_5 rfl (lv_at hl 0 rfl) ?_
    refine va_get (D := D) (ci := 2) (v := .int 0) (C := RX2) (T := TX2) (N := 4) hx hb hts in_X2 hown hK hP 0 rfl rfl 0 (by decide) (hts _ q_186) (fun _ h9 => h9) rfl dX2_at_6 ?_
    refine lv_icmp_ge (tgt := 21) hx hb dX2_at_9 (by decide) (fun _ => ?_) (fun c9 => absurd (Int32.not_lt.mp c_1) c9)
    refine lv_null hx hb dX2_at_21 ?_
    exact W.aret hx hb hr (Or.inl ⟨_, rfl⟩) (Or.inl rfl) (fun t ht hW => ⟨rfl, ht⟩) (fun q hq => absurd hq List.not_mem_nil) dX2_at_22
theorem dX2_questionOf_0 : decode cX2_questionOf 0 = .ok (.iload_n 1, 1) := by decide +kernel
theorem dX2_questionOf_1 : decode cX2_questionOf 1 = .ok (.ifCond .lt 20, 3) := by decide +kernel
theorem dX2_questionOf_4 : decode cX2_questionOf 4 = .ok (.iload_n 1, 1) := by decide +kernel
theorem dX2_questionOf_5 : decode cX2_questionOf 5 = .ok (.aload_n 0, 1) := by decide +kernel
theorem dX2_questionOf_6 : decode cX2_questionOf 6 = .ok (.getfield 26, 3) := by decide +kernel
theorem dX2_questionOf_9 : decode cX2_questionOf 9 = .ok (.if_icmp .ge 12, 3) := by decide +kernel
theorem dX2_questionOf_21 : decode cX2_questionOf 21 = .ok (.bipush 99, 2) := by decide +kernel
theorem dX2_questionOf_23 : decode cX2_questionOf 23 = .ok (.ireturn, 1) := by decide +kernel
set_option maxRecDepth 100000 in
theorem q_189 : (.fieldLink RX2 26 "AssemblyChair$Docket" "resolutions" "I") ∈ lw_all := List.mem_filter.mpr ⟨List.mem_of_getElem? (i := 189) (by decide +kernel), by decide +kernel⟩
set_option maxHeartbeats 4000000 in
set_option maxRecDepth 100000 in
theorem c_X2_questionOf (l : Launch) (D : va_G) (cI cQ cM cR : ClassId) (ndk : Nat) (ndq : Nat) (ndr : Nat) (p0 : Int32) : Met l yX2_questionOf (ws_ yX2_questionOf cX2_questionOf 2 (some .int)) ({ frames := 0, cells := 0, slots := 0, locals := 0 }) (PP D cI cQ cM cR [.ref ndk, .int p0] [(ndk, .inr (2, [.int 0, .int 0, .ref ndq, .ref ndr]))]) (QP (some (.int 99))) 0 0 (fun _ => False) := by
  refine Met.ofW (cc := cX2_questionOf) (maxL := 2) (ret := (some .int)) (by decide) rfl ?_
  intro p e s m args below meth c s₁ B hml hv
  obtain ⟨rfl, hP, hK⟩ := hv
  have hx := B.exec
  have hb := B.bytes
  have hr := B.returns
  have hts : ∀ w ∈ lw_all, w.before _ s = true := fun w h => atoms_spec (ws := (ws_ yX2_questionOf cX2_questionOf 2 (some .int))) B.pre w (List.mem_cons_of_mem _ h)
  have hown : s.vm.findClass RX2 = some m.cls := findClass_of_methodNamed B.named
  have hlocks := B.notSynchronized
  have hP : va_P D vwCl [(ndk, .inr (2, [.int 0, .int 0, .ref ndq, .ref ndr]))] s.heap := hP
  have hl := lv_entry ([.ref ndk, .int p0]) (n := 2) (Nat.le_of_ble_eq_true rfl)
  rw [lg_entry_eq]
  generalize (lg_sl ([.ref ndk, .int p0]) ++ List.replicate (2 - (lg_sl ([.ref ndk, .int p0])).length) Slot.unset).toArray = ls at hl ⊢
  have hl : lv_has ls 2 [(0, .ref ndk), (1, .int p0)] := hl
  refine lv_iload_n hx hb dX2_questionOf_0 rfl (lv_at hl 1 rfl) ?_
  refine lv_if_lt (tgt := 21) hx hb dX2_questionOf_1 (by decide) (fun c_1 => ?_) (fun c_1 => ?_)
  · refine lv_bipush (v := 99) hx hb dX2_questionOf_21 (by decide) ?_
    exact W.iret hx hb hr (fun t ht hW => ⟨rfl, ht⟩) (fun q hq => absurd hq List.not_mem_nil) dX2_questionOf_23
  · refine lv_iload_n hx hb dX2_questionOf_4 rfl (lv_at hl 1 rfl) ?_
    refine lv_aload_n hx hb dX2_questionOf_5 rfl (lv_at hl 0 rfl) ?_
    refine va_get (D := D) (ci := 2) (v := .int 0) (C := RX2) (T := TX2) (N := 4) hx hb hts in_X2 hown hK hP 0 rfl rfl 1 (by decide) (hts _ q_189) (fun _ h9 => h9) rfl dX2_questionOf_6 ?_
    refine lv_icmp_ge (tgt := 21) hx hb dX2_questionOf_9 (by decide) (fun _ => ?_) (fun c9 => absurd (Int32.not_lt.mp c_1) c9)
    refine lv_bipush (v := 99) hx hb dX2_questionOf_21 (by decide) ?_
    exact W.iret hx hb hr (fun t ht hW => ⟨rfl, ht⟩) (fun q hq => absurd hq List.not_mem_nil) dX2_questionOf_23
theorem dX9_firstInCommittee_0 : decode cX9_firstInCommittee 0 = .ok (.iconst 0, 1) := by decide +kernel
theorem dX9_firstInCommittee_1 : decode cX9_firstInCommittee 1 = .ok (.istore_n 2, 1) := by decide +kernel
theorem dX9_firstInCommittee_2 : decode cX9_firstInCommittee 2 = .ok (.iload_n 2, 1) := by decide +kernel
theorem dX9_firstInCommittee_3 : decode cX9_firstInCommittee 3 = .ok (.aload_n 0, 1) := by decide +kernel
theorem dX9_firstInCommittee_4 : decode cX9_firstInCommittee 4 = .ok (.getfield 24, 3) := by decide +kernel
theorem dX9_firstInCommittee_7 : decode cX9_firstInCommittee 7 = .ok (.if_icmp .ge 31, 3) := by decide +kernel
theorem dX9_firstInCommittee_38 : decode cX9_firstInCommittee 38 = .ok (.iconst (-1), 1) := by decide +kernel
theorem dX9_firstInCommittee_39 : decode cX9_firstInCommittee 39 = .ok (.ireturn, 1) := by decide +kernel
set_option maxRecDepth 100000 in
theorem q_210 : (.fieldLink RX9 24 "AssemblyChair$Shelf" "size" "I") ∈ lw_all := List.mem_filter.mpr ⟨List.mem_of_getElem? (i := 210) (by decide +kernel), by decide +kernel⟩
set_option maxHeartbeats 4000000 in
set_option maxRecDepth 100000 in
theorem c_X9_firstInCommittee (l : Launch) (D : va_G) (cI cQ cM cR : ClassId) (nsh : Nat) (nst : Nat) (nss : Nat) (nsp : Nat) (p0 : Int32) : Met l yX9_firstInCommittee (ws_ yX9_firstInCommittee cX9_firstInCommittee 3 (some .int)) ({ frames := 0, cells := 0, slots := 0, locals := 0 }) (PP D cI cQ cM cR [.ref nsh, .int p0] [(nsh, .inr (9, [.int 0, .ref nst, .ref nss, .ref nsp]))]) (QP (some (.int (-1)))) 0 0 (fun _ => False) := by
  refine Met.ofW (cc := cX9_firstInCommittee) (maxL := 3) (ret := (some .int)) (by decide) rfl ?_
  intro p e s m args below meth c s₁ B hml hv
  obtain ⟨rfl, hP, hK⟩ := hv
  have hx := B.exec
  have hb := B.bytes
  have hr := B.returns
  have hts : ∀ w ∈ lw_all, w.before _ s = true := fun w h => atoms_spec (ws := (ws_ yX9_firstInCommittee cX9_firstInCommittee 3 (some .int))) B.pre w (List.mem_cons_of_mem _ h)
  have hown : s.vm.findClass RX9 = some m.cls := findClass_of_methodNamed B.named
  have hlocks := B.notSynchronized
  have hP : va_P D vwCl [(nsh, .inr (9, [.int 0, .ref nst, .ref nss, .ref nsp]))] s.heap := hP
  have hl := lv_entry ([.ref nsh, .int p0]) (n := 3) (Nat.le_of_ble_eq_true rfl)
  rw [lg_entry_eq]
  generalize (lg_sl ([.ref nsh, .int p0]) ++ List.replicate (3 - (lg_sl ([.ref nsh, .int p0])).length) Slot.unset).toArray = ls at hl ⊢
  have hl : lv_has ls 3 [(0, .ref nsh), (1, .int p0)] := hl
  refine lv_iconst (v := 0) hx hb dX9_firstInCommittee_0 (by decide) ?_
  refine lv_istore_n (lv' := [(2, .int 0), (0, .ref nsh), (1, .int p0)]) hx hb dX9_firstInCommittee_1 rfl hl (by decide) rfl (fun ls hl => ?_)
  refine lv_iload_n hx hb dX9_firstInCommittee_2 rfl (lv_at hl 0 rfl) ?_
  refine lv_aload_n hx hb dX9_firstInCommittee_3 rfl (lv_at hl 1 rfl) ?_
  refine va_get (D := D) (ci := 9) (v := .int 0) (C := RX9) (T := TX9) (N := 4) hx hb hts in_X9 hown hK hP 0 rfl rfl 0 (by decide) (hts _ q_210) (fun _ h9 => h9) rfl dX9_firstInCommittee_4 ?_
  refine lv_icmp_ge (tgt := 38) hx hb dX9_firstInCommittee_7 (by decide) (fun _ => ?_) (fun c9 => absurd (by decide) c9)
  refine lv_iconst (v := (-1)) hx hb dX9_firstInCommittee_38 (by decide) ?_
  exact W.iret hx hb hr (fun t ht hW => ⟨rfl, ht⟩) (fun q hq => absurd hq List.not_mem_nil) dX9_firstInCommittee_39
theorem dX9_firstDue_0 : decode cX9_firstDue 0 = .ok (.iconst (-1), 1) := by decide +kernel
theorem dX9_firstDue_1 : decode cX9_firstDue 1 = .ok (.istore_n 2, 1) := by decide +kernel
theorem dX9_firstDue_2 : decode cX9_firstDue 2 = .ok (.iload_n 1, 1) := by decide +kernel
theorem dX9_firstDue_3 : decode cX9_firstDue 3 = .ok (.iconst 1, 1) := by decide +kernel
theorem dX9_firstDue_4 : decode cX9_firstDue 4 = .ok (.iadd, 1) := by decide +kernel
theorem dX9_firstDue_5 : decode cX9_firstDue 5 = .ok (.istore_n 3, 1) := by decide +kernel
theorem dX9_firstDue_6 : decode cX9_firstDue 6 = .ok (.iconst 0, 1) := by decide +kernel
theorem dX9_firstDue_7 : decode cX9_firstDue 7 = .ok (.istore 4, 2) := by decide +kernel
theorem dX9_firstDue_9 : decode cX9_firstDue 9 = .ok (.iload 4, 2) := by decide +kernel
theorem dX9_firstDue_11 : decode cX9_firstDue 11 = .ok (.aload_n 0, 1) := by decide +kernel
theorem dX9_firstDue_12 : decode cX9_firstDue 12 = .ok (.getfield 24, 3) := by decide +kernel
theorem dX9_firstDue_15 : decode cX9_firstDue 15 = .ok (.if_icmp .ge 42, 3) := by decide +kernel
theorem dX9_firstDue_57 : decode cX9_firstDue 57 = .ok (.iload_n 2, 1) := by decide +kernel
theorem dX9_firstDue_58 : decode cX9_firstDue 58 = .ok (.ireturn, 1) := by decide +kernel
set_option maxHeartbeats 4000000 in
set_option maxRecDepth 100000 in
theorem c_X9_firstDue (l : Launch) (D : va_G) (cI cQ cM cR : ClassId) (nsh : Nat) (nst : Nat) (nss : Nat) (nsp : Nat) (p0 : Int32) : Met l yX9_firstDue (ws_ yX9_firstDue cX9_firstDue 5 (some .int)) ({ frames := 0, cells := 0, slots := 0, locals := 0 }) (PP D cI cQ cM cR [.ref nsh, .int p0] [(nsh, .inr (9, [.int 0, .ref nst, .ref nss, .ref nsp]))]) (QP (some (.int (-1)))) 0 0 (fun _ => False) := by
  refine Met.ofW (cc := cX9_firstDue) (maxL := 5) (ret := (some .int)) (by decide) rfl ?_
  intro p e s m args below meth c s₁ B hml hv
  obtain ⟨rfl, hP, hK⟩ := hv
  have hx := B.exec
  have hb := B.bytes
  have hr := B.returns
  have hts : ∀ w ∈ lw_all, w.before _ s = true := fun w h => atoms_spec (ws := (ws_ yX9_firstDue cX9_firstDue 5 (some .int))) B.pre w (List.mem_cons_of_mem _ h)
  have hown : s.vm.findClass RX9 = some m.cls := findClass_of_methodNamed B.named
  have hlocks := B.notSynchronized
  have hP : va_P D vwCl [(nsh, .inr (9, [.int 0, .ref nst, .ref nss, .ref nsp]))] s.heap := hP
  have hl := lv_entry ([.ref nsh, .int p0]) (n := 5) (Nat.le_of_ble_eq_true rfl)
  rw [lg_entry_eq]
  generalize (lg_sl ([.ref nsh, .int p0]) ++ List.replicate (5 - (lg_sl ([.ref nsh, .int p0])).length) Slot.unset).toArray = ls at hl ⊢
  have hl : lv_has ls 5 [(0, .ref nsh), (1, .int p0)] := hl
  refine lv_iconst (v := (-1)) hx hb dX9_firstDue_0 (by decide) ?_
  refine lv_istore_n (lv' := [(2, .int (-1)), (0, .ref nsh), (1, .int p0)]) hx hb dX9_firstDue_1 rfl hl (by decide) rfl (fun ls hl => ?_)
  refine lv_iload_n hx hb dX9_firstDue_2 rfl (lv_at hl 2 rfl) ?_
  refine lv_iconst (v := 1) hx hb dX9_firstDue_3 (by decide) ?_
  refine lv_iadd hx hb dX9_firstDue_4 ?_
  refine lv_istore_n (lv' := [(3, .int (p0 + 1)), (2, .int (-1)), (0, .ref nsh), (1, .int p0)]) hx hb dX9_firstDue_5 rfl hl (by decide) rfl (fun ls hl => ?_)
  refine lv_iconst (v := 0) hx hb dX9_firstDue_6 (by decide) ?_
  refine lv_istore (lv' := [(4, .int 0), (3, .int (p0 + 1)), (2, .int (-1)), (0, .ref nsh), (1, .int p0)]) hx hb dX9_firstDue_7 hl (by decide) rfl (fun ls hl => ?_)
  refine lv_iload hx hb dX9_firstDue_9 (lv_at hl 0 rfl) ?_
  refine lv_aload_n hx hb dX9_firstDue_11 rfl (lv_at hl 3 rfl) ?_
  refine va_get (D := D) (ci := 9) (v := .int 0) (C := RX9) (T := TX9) (N := 4) hx hb hts in_X9 hown hK hP 0 rfl rfl 0 (by decide) (hts _ q_210) (fun _ h9 => h9) rfl dX9_firstDue_12 ?_
  refine lv_icmp_ge (tgt := 57) hx hb dX9_firstDue_15 (by decide) (fun _ => ?_) (fun c9 => absurd (by decide) c9)
  refine lv_iload_n hx hb dX9_firstDue_57 rfl (lv_at hl 2 rfl) ?_
  exact W.iret hx hb hr (fun t ht hW => ⟨rfl, ht⟩) (fun q hq => absurd hq List.not_mem_nil) dX9_firstDue_58
theorem dX9_sizeOf_0 : decode cX9_sizeOf 0 = .ok (.iconst 0, 1) := by decide +kernel
theorem dX9_sizeOf_1 : decode cX9_sizeOf 1 = .ok (.istore_n 2, 1) := by decide +kernel
theorem dX9_sizeOf_2 : decode cX9_sizeOf 2 = .ok (.iconst 0, 1) := by decide +kernel
theorem dX9_sizeOf_3 : decode cX9_sizeOf 3 = .ok (.istore_n 3, 1) := by decide +kernel
theorem dX9_sizeOf_4 : decode cX9_sizeOf 4 = .ok (.iload_n 3, 1) := by decide +kernel
theorem dX9_sizeOf_5 : decode cX9_sizeOf 5 = .ok (.aload_n 0, 1) := by decide +kernel
theorem dX9_sizeOf_6 : decode cX9_sizeOf 6 = .ok (.getfield 24, 3) := by decide +kernel
theorem dX9_sizeOf_9 : decode cX9_sizeOf 9 = .ok (.if_icmp .ge 27, 3) := by decide +kernel
theorem dX9_sizeOf_36 : decode cX9_sizeOf 36 = .ok (.iload_n 2, 1) := by decide +kernel
theorem dX9_sizeOf_37 : decode cX9_sizeOf 37 = .ok (.ireturn, 1) := by decide +kernel
set_option maxHeartbeats 4000000 in
set_option maxRecDepth 100000 in
theorem c_X9_sizeOf (l : Launch) (D : va_G) (cI cQ cM cR : ClassId) (nsh : Nat) (nst : Nat) (nss : Nat) (nsp : Nat) (p0 : Int32) : Met l yX9_sizeOf (ws_ yX9_sizeOf cX9_sizeOf 4 (some .int)) ({ frames := 0, cells := 0, slots := 0, locals := 0 }) (PP D cI cQ cM cR [.ref nsh, .int p0] [(nsh, .inr (9, [.int 0, .ref nst, .ref nss, .ref nsp]))]) (QP (some (.int 0))) 0 0 (fun _ => False) := by
  refine Met.ofW (cc := cX9_sizeOf) (maxL := 4) (ret := (some .int)) (by decide) rfl ?_
  intro p e s m args below meth c s₁ B hml hv
  obtain ⟨rfl, hP, hK⟩ := hv
  have hx := B.exec
  have hb := B.bytes
  have hr := B.returns
  have hts : ∀ w ∈ lw_all, w.before _ s = true := fun w h => atoms_spec (ws := (ws_ yX9_sizeOf cX9_sizeOf 4 (some .int))) B.pre w (List.mem_cons_of_mem _ h)
  have hown : s.vm.findClass RX9 = some m.cls := findClass_of_methodNamed B.named
  have hlocks := B.notSynchronized
  have hP : va_P D vwCl [(nsh, .inr (9, [.int 0, .ref nst, .ref nss, .ref nsp]))] s.heap := hP
  have hl := lv_entry ([.ref nsh, .int p0]) (n := 4) (Nat.le_of_ble_eq_true rfl)
  rw [lg_entry_eq]
  generalize (lg_sl ([.ref nsh, .int p0]) ++ List.replicate (4 - (lg_sl ([.ref nsh, .int p0])).length) Slot.unset).toArray = ls at hl ⊢
  have hl : lv_has ls 4 [(0, .ref nsh), (1, .int p0)] := hl
  refine lv_iconst (v := 0) hx hb dX9_sizeOf_0 (by decide) ?_
  refine lv_istore_n (lv' := [(2, .int 0), (0, .ref nsh), (1, .int p0)]) hx hb dX9_sizeOf_1 rfl hl (by decide) rfl (fun ls hl => ?_)
  refine lv_iconst (v := 0) hx hb dX9_sizeOf_2 (by decide) ?_
  refine lv_istore_n (lv' := [(3, .int 0), (2, .int 0), (0, .ref nsh), (1, .int p0)]) hx hb dX9_sizeOf_3 rfl hl (by decide) rfl (fun ls hl => ?_)
  refine lv_iload_n hx hb dX9_sizeOf_4 rfl (lv_at hl 0 rfl) ?_
  refine lv_aload_n hx hb dX9_sizeOf_5 rfl (lv_at hl 2 rfl) ?_
  refine va_get (D := D) (ci := 9) (v := .int 0) (C := RX9) (T := TX9) (N := 4) hx hb hts in_X9 hown hK hP 0 rfl rfl 0 (by decide) (hts _ q_210) (fun _ h9 => h9) rfl dX9_sizeOf_6 ?_
  refine lv_icmp_ge (tgt := 36) hx hb dX9_sizeOf_9 (by decide) (fun _ => ?_) (fun c9 => absurd (by decide) c9)
  refine lv_iload_n hx hb dX9_sizeOf_36 rfl (lv_at hl 1 rfl) ?_
  exact W.iret hx hb hr (fun t ht hW => ⟨rfl, ht⟩) (fun q hq => absurd hq List.not_mem_nil) dX9_sizeOf_37
theorem dX9_busyCommittees_0 : decode cX9_busyCommittees 0 = .ok (.iconst 0, 1) := by decide +kernel
theorem dX9_busyCommittees_1 : decode cX9_busyCommittees 1 = .ok (.istore_n 1, 1) := by decide +kernel
theorem dX9_busyCommittees_2 : decode cX9_busyCommittees 2 = .ok (.iconst 0, 1) := by decide +kernel
theorem dX9_busyCommittees_3 : decode cX9_busyCommittees 3 = .ok (.istore_n 2, 1) := by decide +kernel
theorem dX9_busyCommittees_4 : decode cX9_busyCommittees 4 = .ok (.iload_n 2, 1) := by decide +kernel
theorem dX9_busyCommittees_5 : decode cX9_busyCommittees 5 = .ok (.iconst 4, 1) := by decide +kernel
theorem dX9_busyCommittees_6 : decode cX9_busyCommittees 6 = .ok (.if_icmp .ge 26, 3) := by decide +kernel
theorem dX9_busyCommittees_9 : decode cX9_busyCommittees 9 = .ok (.iload_n 1, 1) := by decide +kernel
theorem dX9_busyCommittees_10 : decode cX9_busyCommittees 10 = .ok (.aload_n 0, 1) := by decide +kernel
theorem dX9_busyCommittees_11 : decode cX9_busyCommittees 11 = .ok (.iload_n 2, 1) := by decide +kernel
theorem dX9_busyCommittees_12 : decode cX9_busyCommittees 12 = .ok (.invokevirtual 28, 3) := by decide +kernel
theorem dX9_busyCommittees_15 : decode cX9_busyCommittees 15 = .ok (.iconst (-1), 1) := by decide +kernel
theorem dX9_busyCommittees_16 : decode cX9_busyCommittees 16 = .ok (.if_icmp .ne 7, 3) := by decide +kernel
theorem dX9_busyCommittees_19 : decode cX9_busyCommittees 19 = .ok (.iconst 0, 1) := by decide +kernel
theorem dX9_busyCommittees_20 : decode cX9_busyCommittees 20 = .ok (.goto 4, 3) := by decide +kernel
theorem dX9_busyCommittees_24 : decode cX9_busyCommittees 24 = .ok (.iadd, 1) := by decide +kernel
theorem dX9_busyCommittees_25 : decode cX9_busyCommittees 25 = .ok (.istore_n 1, 1) := by decide +kernel
theorem dX9_busyCommittees_26 : decode cX9_busyCommittees 26 = .ok (.iinc 2 1, 3) := by decide +kernel
theorem dX9_busyCommittees_29 : decode cX9_busyCommittees 29 = .ok (.goto (-25), 3) := by decide +kernel
theorem dX9_busyCommittees_32 : decode cX9_busyCommittees 32 = .ok (.iload_n 1, 1) := by decide +kernel
theorem dX9_busyCommittees_33 : decode cX9_busyCommittees 33 = .ok (.ireturn, 1) := by decide +kernel
set_option maxRecDepth 100000 in
theorem q_578 : (.code yX9_firstInCommittee cX9_firstInCommittee 3 (some .int)) ∈ lw_all := List.mem_filter.mpr ⟨List.mem_of_getElem? (i := 578) (rfl), by decide +kernel⟩
set_option maxRecDepth 100000 in
theorem q_71 : (.initialized RX9) ∈ lw_all := List.mem_filter.mpr ⟨List.mem_of_getElem? (i := 71) (by decide +kernel), by decide +kernel⟩
set_option maxRecDepth 100000 in
theorem q_576 : (.instanceMethod yX9_firstInCommittee) ∈ lw_all := List.mem_filter.mpr ⟨List.mem_of_getElem? (i := 576) (by decide +kernel), by decide +kernel⟩
set_option maxRecDepth 100000 in
theorem q_932 : (.methodLink RX9 28 yX9_firstInCommittee) ∈ lw_all := List.mem_filter.mpr ⟨List.mem_of_getElem? (i := 932) (by decide +kernel), by decide +kernel⟩
set_option maxRecDepth 100000 in
theorem q_577 : (.selects RX9 yX9_firstInCommittee yX9_firstInCommittee) ∈ lw_all := List.mem_filter.mpr ⟨List.mem_of_getElem? (i := 577) (by decide +kernel), by decide +kernel⟩
set_option maxHeartbeats 4000000 in
set_option maxRecDepth 100000 in
theorem c_X9_busyCommittees (l : Launch) (D : va_G) (cI cQ cM cR : ClassId) (nsh : Nat) (nst : Nat) (nss : Nat) (nsp : Nat) : Met l yX9_busyCommittees (ws_ yX9_busyCommittees cX9_busyCommittees 3 (some .int)) ({ frames := 1, cells := 0, slots := 0, locals := 22 }) (PP D cI cQ cM cR [.ref nsh] [(nsh, .inr (9, [.int 0, .ref nst, .ref nss, .ref nsp]))]) (QP (some (.int 0))) 0 0 (fun _ => False) := by
  refine Met.ofW (cc := cX9_busyCommittees) (maxL := 3) (ret := (some .int)) (by decide) rfl ?_
  intro p e s m args below meth c s₁ B hml hv
  obtain ⟨rfl, hP, hK⟩ := hv
  have hx := B.exec
  have hb := B.bytes
  have hr := B.returns
  have hts : ∀ w ∈ lw_all, w.before _ s = true := fun w h => atoms_spec (ws := (ws_ yX9_busyCommittees cX9_busyCommittees 3 (some .int))) B.pre w (List.mem_cons_of_mem _ h)
  have hown : s.vm.findClass RX9 = some m.cls := findClass_of_methodNamed B.named
  have hlocks := B.notSynchronized
  have hP : va_P D vwCl [(nsh, .inr (9, [.int 0, .ref nst, .ref nss, .ref nsp]))] s.heap := hP
  have hl := lv_entry ([.ref nsh]) (n := 3) (Nat.le_of_ble_eq_true rfl)
  rw [lg_entry_eq]
  generalize (lg_sl ([.ref nsh]) ++ List.replicate (3 - (lg_sl ([.ref nsh])).length) Slot.unset).toArray = ls at hl ⊢
  have hl : lv_has ls 3 [(0, .ref nsh)] := hl
  refine lv_iconst (v := 0) hx hb dX9_busyCommittees_0 (by decide) ?_
  refine lv_istore_n (lv' := [(1, .int 0), (0, .ref nsh)]) hx hb dX9_busyCommittees_1 rfl hl (by decide) rfl (fun ls hl => ?_)
  refine lv_iconst (v := 0) hx hb dX9_busyCommittees_2 (by decide) ?_
  refine lv_istore_n (lv' := [(2, .int 0), (1, .int 0), (0, .ref nsh)]) hx hb dX9_busyCommittees_3 rfl hl (by decide) rfl (fun ls hl => ?_)
  refine lv_iload_n hx hb dX9_busyCommittees_4 rfl (lv_at hl 0 rfl) ?_
  refine lv_iconst (v := 4) hx hb dX9_busyCommittees_5 (by decide) ?_
  refine lv_icmp_ge (tgt := 32) hx hb dX9_busyCommittees_6 (by decide) (fun c9 => absurd c9 (by decide)) (fun _ => ?_)
  refine lv_iload_n hx hb dX9_busyCommittees_9 rfl (lv_at hl 1 rfl) ?_
  refine lv_aload_n hx hb dX9_busyCommittees_10 rfl (lv_at hl 2 rfl) ?_
  refine lv_iload_n hx hb dX9_busyCommittees_11 rfl (lv_at hl 0 rfl) ?_
  refine p_call (va_runV (As := [.int 0]) (rest := [.int 0]) ⟨hx, hb, hml, hown, hts⟩ (c_X9_firstInCommittee l D cI cQ cM cR nsh nst nss nsp 0) (cwV 1 hts (gV q_932 q_576 q_577 q_71 q_578) rfl rfl rfl (by decide +kernel) ⟨Nat.le_of_ble_eq_true rfl, Nat.le_of_ble_eq_true rfl⟩) ⟨PP_blind, va_recv hK hP (ci := 9) (q0 := 0) rfl rfl, PP_of hK (hP.sub [0] rfl)⟩ rfl rfl hl.1 rfl (lv_room (Nat.le_of_ble_eq_true rfl)) dX9_busyCommittees_12 ⟨Nat.le_of_ble_eq_true rfl, Nat.le_of_ble_eq_true rfl⟩) ?_
  refine lv_iconst (v := (-1)) hx hb dX9_busyCommittees_15 (by decide) ?_
  refine lv_icmp_ne (tgt := 23) hx hb dX9_busyCommittees_16 (by decide) (fun c9 => absurd (by decide) c9) (fun _ => ?_)
  refine lv_iconst (v := 0) hx hb dX9_busyCommittees_19 (by decide) ?_
  refine lv_goto (tgt := 24) hx hb dX9_busyCommittees_20 (by decide) ?_
  refine lv_iadd hx hb dX9_busyCommittees_24 ?_
  refine lv_cst (v := 0) (by decide) ?_
  refine lv_istore_n (lv' := [(1, .int 0), (2, .int 0), (0, .ref nsh)]) hx hb dX9_busyCommittees_25 rfl hl (by decide) rfl (fun ls hl => ?_)
  refine lv_iinc (v := 1) (lv' := [(2, .int 1), (1, .int 0), (0, .ref nsh)]) hx hb dX9_busyCommittees_26 hl (k := 1) rfl (by decide) (by decide) rfl (fun ls hl => ?_)
  refine lv_goto (tgt := 4) hx hb dX9_busyCommittees_29 (by decide) ?_
  refine lv_iload_n hx hb dX9_busyCommittees_4 rfl (lv_at hl 0 rfl) ?_
  refine lv_iconst (v := 4) hx hb dX9_busyCommittees_5 (by decide) ?_
  refine lv_icmp_ge (tgt := 32) hx hb dX9_busyCommittees_6 (by decide) (fun c9 => absurd c9 (by decide)) (fun _ => ?_)
  refine lv_iload_n hx hb dX9_busyCommittees_9 rfl (lv_at hl 1 rfl) ?_
  refine lv_aload_n hx hb dX9_busyCommittees_10 rfl (lv_at hl 2 rfl) ?_
  refine lv_iload_n hx hb dX9_busyCommittees_11 rfl (lv_at hl 0 rfl) ?_
  refine p_call (va_runV (As := [.int 1]) (rest := [.int 0]) ⟨hx, hb, hml, hown, hts⟩ (c_X9_firstInCommittee l D cI cQ cM cR nsh nst nss nsp 1) (cwV 1 hts (gV q_932 q_576 q_577 q_71 q_578) rfl rfl rfl (by decide +kernel) ⟨Nat.le_of_ble_eq_true rfl, Nat.le_of_ble_eq_true rfl⟩) ⟨PP_blind, va_recv hK hP (ci := 9) (q0 := 0) rfl rfl, PP_of hK (hP.sub [0] rfl)⟩ rfl rfl hl.1 rfl (lv_room (Nat.le_of_ble_eq_true rfl)) dX9_busyCommittees_12 ⟨Nat.le_of_ble_eq_true rfl, Nat.le_of_ble_eq_true rfl⟩) ?_
  refine lv_iconst (v := (-1)) hx hb dX9_busyCommittees_15 (by decide) ?_
  refine lv_icmp_ne (tgt := 23) hx hb dX9_busyCommittees_16 (by decide) (fun c9 => absurd (by decide) c9) (fun _ => ?_)
  refine lv_iconst (v := 0) hx hb dX9_busyCommittees_19 (by decide) ?_
  refine lv_goto (tgt := 24) hx hb dX9_busyCommittees_20 (by decide) ?_
  refine lv_iadd hx hb dX9_busyCommittees_24 ?_
  refine lv_cst (v := 0) (by decide) ?_
  refine lv_istore_n (lv' := [(1, .int 0), (2, .int 1), (0, .ref nsh)]) hx hb dX9_busyCommittees_25 rfl hl (by decide) rfl (fun ls hl => ?_)
  refine lv_iinc (v := 2) (lv' := [(2, .int 2), (1, .int 0), (0, .ref nsh)]) hx hb dX9_busyCommittees_26 hl (k := 1) rfl (by decide) (by decide) rfl (fun ls hl => ?_)
  refine lv_goto (tgt := 4) hx hb dX9_busyCommittees_29 (by decide) ?_
  refine lv_iload_n hx hb dX9_busyCommittees_4 rfl (lv_at hl 0 rfl) ?_
  refine lv_iconst (v := 4) hx hb dX9_busyCommittees_5 (by decide) ?_
  refine lv_icmp_ge (tgt := 32) hx hb dX9_busyCommittees_6 (by decide) (fun c9 => absurd c9 (by decide)) (fun _ => ?_)
  refine lv_iload_n hx hb dX9_busyCommittees_9 rfl (lv_at hl 1 rfl) ?_
  refine lv_aload_n hx hb dX9_busyCommittees_10 rfl (lv_at hl 2 rfl) ?_
  refine lv_iload_n hx hb dX9_busyCommittees_11 rfl (lv_at hl 0 rfl) ?_
  refine p_call (va_runV (As := [.int 2]) (rest := [.int 0]) ⟨hx, hb, hml, hown, hts⟩ (c_X9_firstInCommittee l D cI cQ cM cR nsh nst nss nsp 2) (cwV 1 hts (gV q_932 q_576 q_577 q_71 q_578) rfl rfl rfl (by decide +kernel) ⟨Nat.le_of_ble_eq_true rfl, Nat.le_of_ble_eq_true rfl⟩) ⟨PP_blind, va_recv hK hP (ci := 9) (q0 := 0) rfl rfl, PP_of hK (hP.sub [0] rfl)⟩ rfl rfl hl.1 rfl (lv_room (Nat.le_of_ble_eq_true rfl)) dX9_busyCommittees_12 ⟨Nat.le_of_ble_eq_true rfl, Nat.le_of_ble_eq_true rfl⟩) ?_
  refine lv_iconst (v := (-1)) hx hb dX9_busyCommittees_15 (by decide) ?_
  refine lv_icmp_ne (tgt := 23) hx hb dX9_busyCommittees_16 (by decide) (fun c9 => absurd (by decide) c9) (fun _ => ?_)
  refine lv_iconst (v := 0) hx hb dX9_busyCommittees_19 (by decide) ?_
  refine lv_goto (tgt := 24) hx hb dX9_busyCommittees_20 (by decide) ?_
  refine lv_iadd hx hb dX9_busyCommittees_24 ?_
  refine lv_cst (v := 0) (by decide) ?_
  refine lv_istore_n (lv' := [(1, .int 0), (2, .int 2), (0, .ref nsh)]) hx hb dX9_busyCommittees_25 rfl hl (by decide) rfl (fun ls hl => ?_)
  refine lv_iinc (v := 3) (lv' := [(2, .int 3), (1, .int 0), (0, .ref nsh)]) hx hb dX9_busyCommittees_26 hl (k := 1) rfl (by decide) (by decide) rfl (fun ls hl => ?_)
  refine lv_goto (tgt := 4) hx hb dX9_busyCommittees_29 (by decide) ?_
  refine lv_iload_n hx hb dX9_busyCommittees_4 rfl (lv_at hl 0 rfl) ?_
  refine lv_iconst (v := 4) hx hb dX9_busyCommittees_5 (by decide) ?_
  refine lv_icmp_ge (tgt := 32) hx hb dX9_busyCommittees_6 (by decide) (fun c9 => absurd c9 (by decide)) (fun _ => ?_)
  refine lv_iload_n hx hb dX9_busyCommittees_9 rfl (lv_at hl 1 rfl) ?_
  refine lv_aload_n hx hb dX9_busyCommittees_10 rfl (lv_at hl 2 rfl) ?_
  refine lv_iload_n hx hb dX9_busyCommittees_11 rfl (lv_at hl 0 rfl) ?_
  refine p_call (va_runV (As := [.int 3]) (rest := [.int 0]) ⟨hx, hb, hml, hown, hts⟩ (c_X9_firstInCommittee l D cI cQ cM cR nsh nst nss nsp 3) (cwV 1 hts (gV q_932 q_576 q_577 q_71 q_578) rfl rfl rfl (by decide +kernel) ⟨Nat.le_of_ble_eq_true rfl, Nat.le_of_ble_eq_true rfl⟩) ⟨PP_blind, va_recv hK hP (ci := 9) (q0 := 0) rfl rfl, PP_of hK (hP.sub [0] rfl)⟩ rfl rfl hl.1 rfl (lv_room (Nat.le_of_ble_eq_true rfl)) dX9_busyCommittees_12 ⟨Nat.le_of_ble_eq_true rfl, Nat.le_of_ble_eq_true rfl⟩) ?_
  refine lv_iconst (v := (-1)) hx hb dX9_busyCommittees_15 (by decide) ?_
  refine lv_icmp_ne (tgt := 23) hx hb dX9_busyCommittees_16 (by decide) (fun c9 => absurd (by decide) c9) (fun _ => ?_)
  refine lv_iconst (v := 0) hx hb dX9_busyCommittees_19 (by decide) ?_
  refine lv_goto (tgt := 24) hx hb dX9_busyCommittees_20 (by decide) ?_
  refine lv_iadd hx hb dX9_busyCommittees_24 ?_
  refine lv_cst (v := 0) (by decide) ?_
  refine lv_istore_n (lv' := [(1, .int 0), (2, .int 3), (0, .ref nsh)]) hx hb dX9_busyCommittees_25 rfl hl (by decide) rfl (fun ls hl => ?_)
  refine lv_iinc (v := 4) (lv' := [(2, .int 4), (1, .int 0), (0, .ref nsh)]) hx hb dX9_busyCommittees_26 hl (k := 1) rfl (by decide) (by decide) rfl (fun ls hl => ?_)
  refine lv_goto (tgt := 4) hx hb dX9_busyCommittees_29 (by decide) ?_
  refine lv_iload_n hx hb dX9_busyCommittees_4 rfl (lv_at hl 0 rfl) ?_
  refine lv_iconst (v := 4) hx hb dX9_busyCommittees_5 (by decide) ?_
  refine lv_icmp_ge (tgt := 32) hx hb dX9_busyCommittees_6 (by decide) (fun _ => ?_) (fun c9 => absurd (by decide) c9)
  refine lv_iload_n hx hb dX9_busyCommittees_32 rfl (lv_at hl 1 rfl) ?_
  exact W.iret hx hb hr (fun t ht hW => ⟨rfl, ht⟩) (fun q hq => absurd hq List.not_mem_nil) dX9_busyCommittees_33
theorem dX9_motions_0 : decode cX9_motions 0 = .ok (.iconst 0, 1) := by decide +kernel
theorem dX9_motions_1 : decode cX9_motions 1 = .ok (.istore_n 1, 1) := by decide +kernel
theorem dX9_motions_2 : decode cX9_motions 2 = .ok (.iconst 0, 1) := by decide +kernel
theorem dX9_motions_3 : decode cX9_motions 3 = .ok (.istore_n 2, 1) := by decide +kernel
theorem dX9_motions_4 : decode cX9_motions 4 = .ok (.iload_n 2, 1) := by decide +kernel
theorem dX9_motions_5 : decode cX9_motions 5 = .ok (.aload_n 0, 1) := by decide +kernel
theorem dX9_motions_6 : decode cX9_motions 6 = .ok (.getfield 24, 3) := by decide +kernel
theorem dX9_motions_9 : decode cX9_motions 9 = .ok (.if_icmp .ge 34, 3) := by decide +kernel
theorem dX9_motions_43 : decode cX9_motions 43 = .ok (.iload_n 1, 1) := by decide +kernel
theorem dX9_motions_44 : decode cX9_motions 44 = .ok (.ireturn, 1) := by decide +kernel
set_option maxHeartbeats 4000000 in
set_option maxRecDepth 100000 in
theorem c_X9_motions (l : Launch) (D : va_G) (cI cQ cM cR : ClassId) (nsh : Nat) (nst : Nat) (nss : Nat) (nsp : Nat) : Met l yX9_motions (ws_ yX9_motions cX9_motions 3 (some .int)) ({ frames := 0, cells := 0, slots := 0, locals := 0 }) (PP D cI cQ cM cR [.ref nsh] [(nsh, .inr (9, [.int 0, .ref nst, .ref nss, .ref nsp]))]) (QP (some (.int 0))) 0 0 (fun _ => False) := by
  refine Met.ofW (cc := cX9_motions) (maxL := 3) (ret := (some .int)) (by decide) rfl ?_
  intro p e s m args below meth c s₁ B hml hv
  obtain ⟨rfl, hP, hK⟩ := hv
  have hx := B.exec
  have hb := B.bytes
  have hr := B.returns
  have hts : ∀ w ∈ lw_all, w.before _ s = true := fun w h => atoms_spec (ws := (ws_ yX9_motions cX9_motions 3 (some .int))) B.pre w (List.mem_cons_of_mem _ h)
  have hown : s.vm.findClass RX9 = some m.cls := findClass_of_methodNamed B.named
  have hlocks := B.notSynchronized
  have hP : va_P D vwCl [(nsh, .inr (9, [.int 0, .ref nst, .ref nss, .ref nsp]))] s.heap := hP
  have hl := lv_entry ([.ref nsh]) (n := 3) (Nat.le_of_ble_eq_true rfl)
  rw [lg_entry_eq]
  generalize (lg_sl ([.ref nsh]) ++ List.replicate (3 - (lg_sl ([.ref nsh])).length) Slot.unset).toArray = ls at hl ⊢
  have hl : lv_has ls 3 [(0, .ref nsh)] := hl
  refine lv_iconst (v := 0) hx hb dX9_motions_0 (by decide) ?_
  refine lv_istore_n (lv' := [(1, .int 0), (0, .ref nsh)]) hx hb dX9_motions_1 rfl hl (by decide) rfl (fun ls hl => ?_)
  refine lv_iconst (v := 0) hx hb dX9_motions_2 (by decide) ?_
  refine lv_istore_n (lv' := [(2, .int 0), (1, .int 0), (0, .ref nsh)]) hx hb dX9_motions_3 rfl hl (by decide) rfl (fun ls hl => ?_)
  refine lv_iload_n hx hb dX9_motions_4 rfl (lv_at hl 0 rfl) ?_
  refine lv_aload_n hx hb dX9_motions_5 rfl (lv_at hl 2 rfl) ?_
  refine va_get (D := D) (ci := 9) (v := .int 0) (C := RX9) (T := TX9) (N := 4) hx hb hts in_X9 hown hK hP 0 rfl rfl 0 (by decide) (hts _ q_210) (fun _ h9 => h9) rfl dX9_motions_6 ?_
  refine lv_icmp_ge (tgt := 43) hx hb dX9_motions_9 (by decide) (fun _ => ?_) (fun c9 => absurd (by decide) c9)
  refine lv_iload_n hx hb dX9_motions_43 rfl (lv_at hl 1 rfl) ?_
  exact W.iret hx hb hr (fun t ht hW => ⟨rfl, ht⟩) (fun q hq => absurd hq List.not_mem_nil) dX9_motions_44
theorem dX4_height_0 : decode cX4_height 0 = .ok (.aload_n 0, 1) := by decide +kernel
theorem dX4_height_1 : decode cX4_height 1 = .ok (.getfield 90, 3) := by decide +kernel
theorem dX4_height_4 : decode cX4_height 4 = .ok (.ifnonnull 7, 3) := by decide +kernel
theorem dX4_height_7 : decode cX4_height 7 = .ok (.iconst 0, 1) := by decide +kernel
theorem dX4_height_8 : decode cX4_height 8 = .ok (.goto 10, 3) := by decide +kernel
theorem dX4_height_18 : decode cX4_height 18 = .ok (.ireturn, 1) := by decide +kernel
set_option maxRecDepth 100000 in
theorem q_355 : (.fieldLink RX4 90 "AssemblyChair$Meeting" "top" "LAssemblyChair$Motion;") ∈ lw_all := List.mem_filter.mpr ⟨List.mem_of_getElem? (i := 355) (by decide +kernel), by decide +kernel⟩
set_option maxHeartbeats 4000000 in
set_option maxRecDepth 100000 in
theorem c_X4_height (l : Launch) (D : va_G) (cI cQ cM cR : ClassId) (nme : Nat) (nho : Nat) (ndk : Nat) (nsh : Nat) (nmi : Nat) (nba : Nat) (nde : Nat) (nbu : Nat) : Met l yX4_height (ws_ yX4_height cX4_height 1 (some .int)) ({ frames := 0, cells := 0, slots := 0, locals := 0 }) (PP D cI cQ cM cR [.ref nme] [(nme, .inr (4, [.ref nho, .ref ndk, .ref nsh, .ref nmi, .ref nba, .ref nde, .ref nbu, .int 1, .int 0, .null, .int 0, .int 0, .int 0]))]) (QP (some (.int 0))) 0 0 (fun _ => False) := by
  refine Met.ofW (cc := cX4_height) (maxL := 1) (ret := (some .int)) (by decide) rfl ?_
  intro p e s m args below meth c s₁ B hml hv
  obtain ⟨rfl, hP, hK⟩ := hv
  have hx := B.exec
  have hb := B.bytes
  have hr := B.returns
  have hts : ∀ w ∈ lw_all, w.before _ s = true := fun w h => atoms_spec (ws := (ws_ yX4_height cX4_height 1 (some .int))) B.pre w (List.mem_cons_of_mem _ h)
  have hown : s.vm.findClass RX4 = some m.cls := findClass_of_methodNamed B.named
  have hlocks := B.notSynchronized
  have hP : va_P D vwCl [(nme, .inr (4, [.ref nho, .ref ndk, .ref nsh, .ref nmi, .ref nba, .ref nde, .ref nbu, .int 1, .int 0, .null, .int 0, .int 0, .int 0]))] s.heap := hP
  have hl := lv_entry ([.ref nme]) (n := 1) (Nat.le_of_ble_eq_true rfl)
  rw [lg_entry_eq]
  generalize (lg_sl ([.ref nme]) ++ List.replicate (1 - (lg_sl ([.ref nme])).length) Slot.unset).toArray = ls at hl ⊢
  have hl : lv_has ls 1 [(0, .ref nme)] := hl
  refine lv_aload_n hx hb dX4_height_0 rfl (lv_at hl 0 rfl) ?_
  refine va_get (D := D) (ci := 4) (v := .null) (C := RX4) (T := TX4) (N := 13) hx hb hts in_X4 hown hK hP 0 rfl rfl 9 (by decide) (hts _ q_355) (fun _ h9 => h9) rfl dX4_height_1 ?_
  refine lv_ifnonnullN hx hb dX4_height_4 ?_
  refine lv_iconst (v := 0) hx hb dX4_height_7 (by decide) ?_
  refine lv_goto (tgt := 18) hx hb dX4_height_8 (by decide) ?_
  exact W.iret hx hb hr (fun t ht hW => ⟨rfl, ht⟩) (fun q hq => absurd hq List.not_mem_nil) dX4_height_18
theorem dX4_motionAt_0 : decode cX4_motionAt 0 = .ok (.iload_n 1, 1) := by decide +kernel
theorem dX4_motionAt_1 : decode cX4_motionAt 1 = .ok (.ifCond .lt 11, 3) := by decide +kernel
theorem dX4_motionAt_4 : decode cX4_motionAt 4 = .ok (.iload_n 1, 1) := by decide +kernel
theorem dX4_motionAt_5 : decode cX4_motionAt 5 = .ok (.aload_n 0, 1) := by decide +kernel
theorem dX4_motionAt_6 : decode cX4_motionAt 6 = .ok (.invokevirtual 108, 3) := by decide +kernel
theorem dX4_motionAt_9 : decode cX4_motionAt 9 = .ok (.if_icmp .lt 5, 3) := by decide +kernel
theorem dX4_motionAt_12 : decode cX4_motionAt 12 = .ok (.aconst_null, 1) := by decide +kernel
theorem dX4_motionAt_13 : decode cX4_motionAt 13 = .ok (.areturn, 1) := by decide +kernel
set_option maxRecDepth 100000 in
theorem q_681 : (.code yX4_height cX4_height 1 (some .int)) ∈ lw_all := List.mem_filter.mpr ⟨List.mem_of_getElem? (i := 681) (rfl), by decide +kernel⟩
set_option maxRecDepth 100000 in
theorem q_66 : (.initialized RX4) ∈ lw_all := List.mem_filter.mpr ⟨List.mem_of_getElem? (i := 66) (by decide +kernel), by decide +kernel⟩
set_option maxRecDepth 100000 in
theorem q_679 : (.instanceMethod yX4_height) ∈ lw_all := List.mem_filter.mpr ⟨List.mem_of_getElem? (i := 679) (by decide +kernel), by decide +kernel⟩
set_option maxRecDepth 100000 in
theorem q_858 : (.methodLink RX4 108 yX4_height) ∈ lw_all := List.mem_filter.mpr ⟨List.mem_of_getElem? (i := 858) (by decide +kernel), by decide +kernel⟩
set_option maxRecDepth 100000 in
theorem q_680 : (.selects RX4 yX4_height yX4_height) ∈ lw_all := List.mem_filter.mpr ⟨List.mem_of_getElem? (i := 680) (by decide +kernel), by decide +kernel⟩
set_option maxHeartbeats 4000000 in
set_option maxRecDepth 100000 in
theorem c_X4_motionAt (l : Launch) (D : va_G) (cI cQ cM cR : ClassId) (nme : Nat) (nho : Nat) (ndk : Nat) (nsh : Nat) (nmi : Nat) (nba : Nat) (nde : Nat) (nbu : Nat) (p0 : Int32) : Met l yX4_motionAt (ws_ yX4_motionAt cX4_motionAt 3 (some (.object "AssemblyChair$Motion"))) ({ frames := 1, cells := 0, slots := 0, locals := 20 }) (PP D cI cQ cM cR [.ref nme, .int p0] [(nme, .inr (4, [.ref nho, .ref ndk, .ref nsh, .ref nmi, .ref nba, .ref nde, .ref nbu, .int 1, .int 0, .null, .int 0, .int 0, .int 0]))]) (QP (some (.null))) 0 0 (fun _ => False) := by
  refine Met.ofW (cc := cX4_motionAt) (maxL := 3) (ret := (some (.object "AssemblyChair$Motion"))) (by decide) rfl ?_
  intro p e s m args below meth c s₁ B hml hv
  obtain ⟨rfl, hP, hK⟩ := hv
  have hx := B.exec
  have hb := B.bytes
  have hr := B.returns
  have hts : ∀ w ∈ lw_all, w.before _ s = true := fun w h => atoms_spec (ws := (ws_ yX4_motionAt cX4_motionAt 3 (some (.object "AssemblyChair$Motion")))) B.pre w (List.mem_cons_of_mem _ h)
  have hown : s.vm.findClass RX4 = some m.cls := findClass_of_methodNamed B.named
  have hlocks := B.notSynchronized
  have hP : va_P D vwCl [(nme, .inr (4, [.ref nho, .ref ndk, .ref nsh, .ref nmi, .ref nba, .ref nde, .ref nbu, .int 1, .int 0, .null, .int 0, .int 0, .int 0]))] s.heap := hP
  have hl := lv_entry ([.ref nme, .int p0]) (n := 3) (Nat.le_of_ble_eq_true rfl)
  rw [lg_entry_eq]
  generalize (lg_sl ([.ref nme, .int p0]) ++ List.replicate (3 - (lg_sl ([.ref nme, .int p0])).length) Slot.unset).toArray = ls at hl ⊢
  have hl : lv_has ls 3 [(0, .ref nme), (1, .int p0)] := hl
  refine lv_iload_n hx hb dX4_motionAt_0 rfl (lv_at hl 1 rfl) ?_
  refine lv_if_lt (tgt := 12) hx hb dX4_motionAt_1 (by decide) (fun c_1 => ?_) (fun c_1 => ?_)
  · refine lv_null hx hb dX4_motionAt_12 ?_
    exact W.aret hx hb hr (Or.inl ⟨_, rfl⟩) (Or.inl rfl) (fun t ht hW => ⟨rfl, ht⟩) (fun q hq => absurd hq List.not_mem_nil) dX4_motionAt_13
  · refine lv_iload_n hx hb dX4_motionAt_4 rfl (lv_at hl 1 rfl) ?_
    refine lv_aload_n hx hb dX4_motionAt_5 rfl (lv_at hl 0 rfl) ?_
    refine p_call (va_runV (As := []) (rest := [.int p0]) ⟨hx, hb, hml, hown, hts⟩ (c_X4_height l D cI cQ cM cR nme nho ndk nsh nmi nba nde nbu) (cwV 0 hts (gV q_858 q_679 q_680 q_66 q_681) rfl rfl rfl (by decide +kernel) ⟨Nat.le_of_ble_eq_true rfl, Nat.le_of_ble_eq_true rfl⟩) ⟨PP_blind, va_recv hK hP (ci := 4) (q0 := 0) rfl rfl, PP_of hK (hP.sub [0] rfl)⟩ rfl rfl hl.1 rfl (lv_room (Nat.le_of_ble_eq_true rfl)) dX4_motionAt_6 ⟨Nat.le_of_ble_eq_true rfl, Nat.le_of_ble_eq_true rfl⟩) ?_
    refine lv_icmp_lt (tgt := 14) hx hb dX4_motionAt_9 (by decide) (fun c9 => absurd c9 (c_1)) (fun _ => ?_)
    refine lv_null hx hb dX4_motionAt_12 ?_
    exact W.aret hx hb hr (Or.inl ⟨_, rfl⟩) (Or.inl rfl) (fun t ht hW => ⟨rfl, ht⟩) (fun q hq => absurd hq List.not_mem_nil) dX4_motionAt_13
theorem dX4_pendingQuestion_0 : decode cX4_pendingQuestion 0 = .ok (.aload_n 0, 1) := by decide +kernel
theorem dX4_pendingQuestion_1 : decode cX4_pendingQuestion 1 = .ok (.getfield 90, 3) := by decide +kernel
theorem dX4_pendingQuestion_4 : decode cX4_pendingQuestion 4 = .ok (.ifnonnull 7, 3) := by decide +kernel
theorem dX4_pendingQuestion_7 : decode cX4_pendingQuestion 7 = .ok (.aconst_null, 1) := by decide +kernel
theorem dX4_pendingQuestion_8 : decode cX4_pendingQuestion 8 = .ok (.goto 17, 3) := by decide +kernel
theorem dX4_pendingQuestion_25 : decode cX4_pendingQuestion 25 = .ok (.areturn, 1) := by decide +kernel
set_option maxHeartbeats 4000000 in
set_option maxRecDepth 100000 in
theorem c_X4_pendingQuestion (l : Launch) (D : va_G) (cI cQ cM cR : ClassId) (nme : Nat) (nho : Nat) (ndk : Nat) (nsh : Nat) (nmi : Nat) (nba : Nat) (nde : Nat) (nbu : Nat) : Met l yX4_pendingQuestion (ws_ yX4_pendingQuestion cX4_pendingQuestion 1 (some (.object "AssemblyChair$Question"))) ({ frames := 0, cells := 0, slots := 0, locals := 0 }) (PP D cI cQ cM cR [.ref nme] [(nme, .inr (4, [.ref nho, .ref ndk, .ref nsh, .ref nmi, .ref nba, .ref nde, .ref nbu, .int 1, .int 0, .null, .int 0, .int 0, .int 0]))]) (QP (some (.null))) 0 0 (fun _ => False) := by
  refine Met.ofW (cc := cX4_pendingQuestion) (maxL := 1) (ret := (some (.object "AssemblyChair$Question"))) (by decide) rfl ?_
  intro p e s m args below meth c s₁ B hml hv
  obtain ⟨rfl, hP, hK⟩ := hv
  have hx := B.exec
  have hb := B.bytes
  have hr := B.returns
  have hts : ∀ w ∈ lw_all, w.before _ s = true := fun w h => atoms_spec (ws := (ws_ yX4_pendingQuestion cX4_pendingQuestion 1 (some (.object "AssemblyChair$Question")))) B.pre w (List.mem_cons_of_mem _ h)
  have hown : s.vm.findClass RX4 = some m.cls := findClass_of_methodNamed B.named
  have hlocks := B.notSynchronized
  have hP : va_P D vwCl [(nme, .inr (4, [.ref nho, .ref ndk, .ref nsh, .ref nmi, .ref nba, .ref nde, .ref nbu, .int 1, .int 0, .null, .int 0, .int 0, .int 0]))] s.heap := hP
  have hl := lv_entry ([.ref nme]) (n := 1) (Nat.le_of_ble_eq_true rfl)
  rw [lg_entry_eq]
  generalize (lg_sl ([.ref nme]) ++ List.replicate (1 - (lg_sl ([.ref nme])).length) Slot.unset).toArray = ls at hl ⊢
  have hl : lv_has ls 1 [(0, .ref nme)] := hl
  refine lv_aload_n hx hb dX4_pendingQuestion_0 rfl (lv_at hl 0 rfl) ?_
  refine va_get (D := D) (ci := 4) (v := .null) (C := RX4) (T := TX4) (N := 13) hx hb hts in_X4 hown hK hP 0 rfl rfl 9 (by decide) (hts _ q_355) (fun _ h9 => h9) rfl dX4_pendingQuestion_1 ?_
  refine lv_ifnonnullN hx hb dX4_pendingQuestion_4 ?_
  refine lv_null hx hb dX4_pendingQuestion_7 ?_
  refine lv_goto (tgt := 25) hx hb dX4_pendingQuestion_8 (by decide) ?_
  exact W.aret hx hb hr (Or.inl ⟨_, rfl⟩) (Or.inl rfl) (fun t ht hW => ⟨rfl, ht⟩) (fun q hq => absurd hq List.not_mem_nil) dX4_pendingQuestion_25
theorem dX11_presence_0 : decode cX11_presence 0 = .ok (.aload_n 0, 1) := by decide +kernel
theorem dX11_presence_1 : decode cX11_presence 1 = .ok (.getfield 12, 3) := by decide +kernel
theorem dX11_presence_4 : decode cX11_presence 4 = .ok (.getfield 35, 3) := by decide +kernel
theorem dX11_presence_7 : decode cX11_presence 7 = .ok (.iload_n 1, 1) := by decide +kernel
theorem dX11_presence_8 : decode cX11_presence 8 = .ok (.invokevirtual 49, 3) := by decide +kernel
theorem dX11_presence_11 : decode cX11_presence 11 = .ok (.ifCond .ne 5, 3) := by decide +kernel
theorem dX11_presence_14 : decode cX11_presence 14 = .ok (.iconst (-1), 1) := by decide +kernel
theorem dX11_presence_15 : decode cX11_presence 15 = .ok (.ireturn, 1) := by decide +kernel
set_option maxRecDepth 100000 in
theorem q_447 : (.code yX3_has cX3_has 2 (some .boolean)) ∈ lw_all := List.mem_filter.mpr ⟨List.mem_of_getElem? (i := 447) (rfl), by decide +kernel⟩
set_option maxRecDepth 100000 in
theorem q_412 : (.fieldLink RX11 12 "AssemblyChair" "now" "LAssemblyChair$Meeting;") ∈ lw_all := List.mem_filter.mpr ⟨List.mem_of_getElem? (i := 412) (by decide +kernel), by decide +kernel⟩
set_option maxRecDepth 100000 in
theorem q_338 : (.fieldLink RX11 35 "AssemblyChair$Meeting" "house" "LAssemblyChair$House;") ∈ lw_all := List.mem_filter.mpr ⟨List.mem_of_getElem? (i := 338) (by decide +kernel), by decide +kernel⟩
set_option maxRecDepth 100000 in
theorem q_67 : (.initialized RX3) ∈ lw_all := List.mem_filter.mpr ⟨List.mem_of_getElem? (i := 67) (by decide +kernel), by decide +kernel⟩
set_option maxRecDepth 100000 in
theorem q_445 : (.instanceMethod yX3_has) ∈ lw_all := List.mem_filter.mpr ⟨List.mem_of_getElem? (i := 445) (by decide +kernel), by decide +kernel⟩
set_option maxRecDepth 100000 in
theorem q_444 : (.methodLink RX11 49 yX3_has) ∈ lw_all := List.mem_filter.mpr ⟨List.mem_of_getElem? (i := 444) (by decide +kernel), by decide +kernel⟩
set_option maxRecDepth 100000 in
theorem q_446 : (.selects RX3 yX3_has yX3_has) ∈ lw_all := List.mem_filter.mpr ⟨List.mem_of_getElem? (i := 446) (by decide +kernel), by decide +kernel⟩
set_option maxHeartbeats 4000000 in
set_option maxRecDepth 100000 in
theorem c_X11_presence (l : Launch) (D : va_G) (cI cQ cM cR : ClassId) (x0 : Nat) (nme : Nat) (sme : Nat) (xr : Nat) (xs : Nat) (nho : Nat) (ndk : Nat) (nsh : Nat) (nmi : Nat) (nba : Nat) (nde : Nat) (nbu : Nat) (nhw : Nat) (nhs : Nat) (p0 : Int32) (p1 : Int32) : Met l yX11_presence (ws_ yX11_presence cX11_presence 4 (some .int)) ({ frames := 1, cells := 0, slots := 0, locals := 21 }) (PP D cI cQ cM cR [.ref x0, .int p0, .int p1] [(x0, .inr (11, [.ref nme, .ref sme, .int 0, .ref xr, .ref xs])), (nme, .inr (4, [.ref nho, .ref ndk, .ref nsh, .ref nmi, .ref nba, .ref nde, .ref nbu, .int 1, .int 0, .null, .int 0, .int 0, .int 0])), (nho, .inr (3, [.int 0, .int 50, .int 0, .ref nhw, .ref nhs]))]) (QP (some (.int (-1)))) 0 0 (fun _ => False) := by
  refine Met.ofW (cc := cX11_presence) (maxL := 4) (ret := (some .int)) (by decide) rfl ?_
  intro p e s m args below meth c s₁ B hml hv
  obtain ⟨rfl, hP, hK⟩ := hv
  have hx := B.exec
  have hb := B.bytes
  have hr := B.returns
  have hts : ∀ w ∈ lw_all, w.before _ s = true := fun w h => atoms_spec (ws := (ws_ yX11_presence cX11_presence 4 (some .int))) B.pre w (List.mem_cons_of_mem _ h)
  have hown : s.vm.findClass RX11 = some m.cls := findClass_of_methodNamed B.named
  have hlocks := B.notSynchronized
  have hP : va_P D vwCl [(x0, .inr (11, [.ref nme, .ref sme, .int 0, .ref xr, .ref xs])), (nme, .inr (4, [.ref nho, .ref ndk, .ref nsh, .ref nmi, .ref nba, .ref nde, .ref nbu, .int 1, .int 0, .null, .int 0, .int 0, .int 0])), (nho, .inr (3, [.int 0, .int 50, .int 0, .ref nhw, .ref nhs]))] s.heap := hP
  have hl := lv_entry ([.ref x0, .int p0, .int p1]) (n := 4) (Nat.le_of_ble_eq_true rfl)
  rw [lg_entry_eq]
  generalize (lg_sl ([.ref x0, .int p0, .int p1]) ++ List.replicate (4 - (lg_sl ([.ref x0, .int p0, .int p1])).length) Slot.unset).toArray = ls at hl ⊢
  have hl : lv_has ls 4 [(0, .ref x0), (1, .int p0), (2, .int p1)] := hl
  refine lv_aload_n hx hb dX11_presence_0 rfl (lv_at hl 0 rfl) ?_
  refine va_get (D := D) (ci := 11) (v := .ref nme) (C := RX11) (T := TX11) (N := 5) hx hb hts in_X11 hown hK hP 0 rfl rfl 0 (by decide) (hts _ q_412) (fun _ h9 => h9) rfl dX11_presence_1 ?_
  refine va_get (D := D) (ci := 4) (v := .ref nho) (C := RX4) (T := TX4) (N := 13) hx hb hts in_X4 hown hK hP 1 rfl rfl 0 (by decide) (hts _ q_338) (fun _ h9 => h9) rfl dX11_presence_4 ?_
  refine lv_iload_n hx hb dX11_presence_7 rfl (lv_at hl 1 rfl) ?_
  refine p_call (va_runV (As := [.int p0]) (rest := []) ⟨hx, hb, hml, hown, hts⟩ (c_X3_has l D cI cQ cM cR nho nhw nhs p0) (cwV 1 hts (gV q_444 q_445 q_446 q_67 q_447) rfl rfl rfl (by decide +kernel) ⟨Nat.le_of_ble_eq_true rfl, Nat.le_of_ble_eq_true rfl⟩) ⟨PP_blind, va_recv hK hP (ci := 3) (q0 := 2) rfl rfl, PP_of hK (hP.sub [2] rfl)⟩ rfl rfl hl.1 rfl (lv_room (Nat.le_of_ble_eq_true rfl)) dX11_presence_8 ⟨Nat.le_of_ble_eq_true rfl, Nat.le_of_ble_eq_true rfl⟩) ?_
  refine lv_if_ne (tgt := 16) hx hb dX11_presence_11 (by decide) (fun c9 => absurd (by decide) c9) (fun _ => ?_)
  refine lv_iconst (v := (-1)) hx hb dX11_presence_14 (by decide) ?_
  exact W.iret hx hb hr (fun t ht hW => ⟨rfl, ht⟩) (fun q hq => absurd hq List.not_mem_nil) dX11_presence_15
theorem dX11_rule_0 : decode cX11_rule 0 = .ok (.aload_n 0, 1) := by decide +kernel
theorem dX11_rule_1 : decode cX11_rule 1 = .ok (.getfield 12, 3) := by decide +kernel
theorem dX11_rule_4 : decode cX11_rule 4 = .ok (.getfield 35, 3) := by decide +kernel
theorem dX11_rule_7 : decode cX11_rule 7 = .ok (.iload_n 1, 1) := by decide +kernel
theorem dX11_rule_8 : decode cX11_rule 8 = .ok (.invokevirtual 49, 3) := by decide +kernel
theorem dX11_rule_11 : decode cX11_rule 11 = .ok (.ifCond .eq 13, 3) := by decide +kernel
theorem dX11_rule_24 : decode cX11_rule 24 = .ok (.iconst (-1), 1) := by decide +kernel
theorem dX11_rule_25 : decode cX11_rule 25 = .ok (.ireturn, 1) := by decide +kernel
set_option maxHeartbeats 4000000 in
set_option maxRecDepth 100000 in
theorem c_X11_rule (l : Launch) (D : va_G) (cI cQ cM cR : ClassId) (x0 : Nat) (nme : Nat) (sme : Nat) (xr : Nat) (xs : Nat) (nho : Nat) (ndk : Nat) (nsh : Nat) (nmi : Nat) (nba : Nat) (nde : Nat) (nbu : Nat) (nhw : Nat) (nhs : Nat) (p0 : Int32) (p1 : Int32) (p2 : Int32) (p3 : Int32) (p4 : Int32) : Met l yX11_rule (ws_ yX11_rule cX11_rule 7 (some .int)) ({ frames := 1, cells := 0, slots := 0, locals := 21 }) (PP D cI cQ cM cR [.ref x0, .int p0, .int p1, .int p2, .int p3, .int p4] [(x0, .inr (11, [.ref nme, .ref sme, .int 0, .ref xr, .ref xs])), (nme, .inr (4, [.ref nho, .ref ndk, .ref nsh, .ref nmi, .ref nba, .ref nde, .ref nbu, .int 1, .int 0, .null, .int 0, .int 0, .int 0])), (nho, .inr (3, [.int 0, .int 50, .int 0, .ref nhw, .ref nhs]))]) (QP (some (.int (-1)))) 0 0 (fun _ => False) := by
  refine Met.ofW (cc := cX11_rule) (maxL := 7) (ret := (some .int)) (by decide) rfl ?_
  intro p e s m args below meth c s₁ B hml hv
  obtain ⟨rfl, hP, hK⟩ := hv
  have hx := B.exec
  have hb := B.bytes
  have hr := B.returns
  have hts : ∀ w ∈ lw_all, w.before _ s = true := fun w h => atoms_spec (ws := (ws_ yX11_rule cX11_rule 7 (some .int))) B.pre w (List.mem_cons_of_mem _ h)
  have hown : s.vm.findClass RX11 = some m.cls := findClass_of_methodNamed B.named
  have hlocks := B.notSynchronized
  have hP : va_P D vwCl [(x0, .inr (11, [.ref nme, .ref sme, .int 0, .ref xr, .ref xs])), (nme, .inr (4, [.ref nho, .ref ndk, .ref nsh, .ref nmi, .ref nba, .ref nde, .ref nbu, .int 1, .int 0, .null, .int 0, .int 0, .int 0])), (nho, .inr (3, [.int 0, .int 50, .int 0, .ref nhw, .ref nhs]))] s.heap := hP
  have hl := lv_entry ([.ref x0, .int p0, .int p1, .int p2, .int p3, .int p4]) (n := 7) (Nat.le_of_ble_eq_true rfl)
  rw [lg_entry_eq]
  generalize (lg_sl ([.ref x0, .int p0, .int p1, .int p2, .int p3, .int p4]) ++ List.replicate (7 - (lg_sl ([.ref x0, .int p0, .int p1, .int p2, .int p3, .int p4])).length) Slot.unset).toArray = ls at hl ⊢
  have hl : lv_has ls 7 [(0, .ref x0), (1, .int p0), (2, .int p1), (3, .int p2), (4, .int p3), (5, .int p4)] := hl
  refine lv_aload_n hx hb dX11_rule_0 rfl (lv_at hl 0 rfl) ?_
  refine va_get (D := D) (ci := 11) (v := .ref nme) (C := RX11) (T := TX11) (N := 5) hx hb hts in_X11 hown hK hP 0 rfl rfl 0 (by decide) (hts _ q_412) (fun _ h9 => h9) rfl dX11_rule_1 ?_
  refine va_get (D := D) (ci := 4) (v := .ref nho) (C := RX4) (T := TX4) (N := 13) hx hb hts in_X4 hown hK hP 1 rfl rfl 0 (by decide) (hts _ q_338) (fun _ h9 => h9) rfl dX11_rule_4 ?_
  refine lv_iload_n hx hb dX11_rule_7 rfl (lv_at hl 1 rfl) ?_
  refine p_call (va_runV (As := [.int p0]) (rest := []) ⟨hx, hb, hml, hown, hts⟩ (c_X3_has l D cI cQ cM cR nho nhw nhs p0) (cwV 1 hts (gV q_444 q_445 q_446 q_67 q_447) rfl rfl rfl (by decide +kernel) ⟨Nat.le_of_ble_eq_true rfl, Nat.le_of_ble_eq_true rfl⟩) ⟨PP_blind, va_recv hK hP (ci := 3) (q0 := 2) rfl rfl, PP_of hK (hP.sub [2] rfl)⟩ rfl rfl hl.1 rfl (lv_room (Nat.le_of_ble_eq_true rfl)) dX11_rule_8 ⟨Nat.le_of_ble_eq_true rfl, Nat.le_of_ble_eq_true rfl⟩) ?_
  refine lv_if_eq (tgt := 24) hx hb dX11_rule_11 (by decide) (fun _ => ?_) (fun c9 => absurd (by decide) c9)
  refine lv_iconst (v := (-1)) hx hb dX11_rule_24 (by decide) ?_
  exact W.iret hx hb hr (fun t ht hW => ⟨rfl, ht⟩) (fun q hq => absurd hq List.not_mem_nil) dX11_rule_25
theorem dX11_move_0 : decode cX11_move 0 = .ok (.aload_n 0, 1) := by decide +kernel
theorem dX11_move_1 : decode cX11_move 1 = .ok (.iload_n 1, 1) := by decide +kernel
theorem dX11_move_2 : decode cX11_move 2 = .ok (.iload_n 2, 1) := by decide +kernel
theorem dX11_move_3 : decode cX11_move 3 = .ok (.iload_n 3, 1) := by decide +kernel
theorem dX11_move_4 : decode cX11_move 4 = .ok (.iload 4, 2) := by decide +kernel
theorem dX11_move_6 : decode cX11_move 6 = .ok (.iload 5, 2) := by decide +kernel
theorem dX11_move_8 : decode cX11_move 8 = .ok (.invokevirtual 87, 3) := by decide +kernel
theorem dX11_move_11 : decode cX11_move 11 = .ok (.istore 6, 2) := by decide +kernel
theorem dX11_move_13 : decode cX11_move 13 = .ok (.iload 6, 2) := by decide +kernel
theorem dX11_move_15 : decode cX11_move 15 = .ok (.ifCond .ge 6, 3) := by decide +kernel
theorem dX11_move_18 : decode cX11_move 18 = .ok (.iload 6, 2) := by decide +kernel
theorem dX11_move_20 : decode cX11_move 20 = .ok (.ireturn, 1) := by decide +kernel
set_option maxRecDepth 100000 in
theorem q_490 : (.code yX11_rule cX11_rule 7 (some .int)) ∈ lw_all := List.mem_filter.mpr ⟨List.mem_of_getElem? (i := 490) (rfl), by decide +kernel⟩
set_option maxRecDepth 100000 in
theorem q_65 : (.initialized RX11) ∈ lw_all := List.mem_filter.mpr ⟨List.mem_of_getElem? (i := 65) (by decide +kernel), by decide +kernel⟩
set_option maxRecDepth 100000 in
theorem q_488 : (.instanceMethod yX11_rule) ∈ lw_all := List.mem_filter.mpr ⟨List.mem_of_getElem? (i := 488) (by decide +kernel), by decide +kernel⟩
set_option maxRecDepth 100000 in
theorem q_487 : (.methodLink RX11 87 yX11_rule) ∈ lw_all := List.mem_filter.mpr ⟨List.mem_of_getElem? (i := 487) (by decide +kernel), by decide +kernel⟩
set_option maxRecDepth 100000 in
theorem q_489 : (.selects RX11 yX11_rule yX11_rule) ∈ lw_all := List.mem_filter.mpr ⟨List.mem_of_getElem? (i := 489) (by decide +kernel), by decide +kernel⟩
set_option maxHeartbeats 4000000 in
set_option maxRecDepth 100000 in
theorem c_X11_move (l : Launch) (D : va_G) (cI cQ cM cR : ClassId) (x0 : Nat) (nme : Nat) (sme : Nat) (xr : Nat) (xs : Nat) (nho : Nat) (ndk : Nat) (nsh : Nat) (nmi : Nat) (nba : Nat) (nde : Nat) (nbu : Nat) (nhw : Nat) (nhs : Nat) (p0 : Int32) (p1 : Int32) (p2 : Int32) (p3 : Int32) (p4 : Int32) : Met l yX11_move (ws_ yX11_move cX11_move 7 (some .int)) ({ frames := 2, cells := 0, slots := 0, locals := 47 }) (PP D cI cQ cM cR [.ref x0, .int p0, .int p1, .int p2, .int p3, .int p4] [(x0, .inr (11, [.ref nme, .ref sme, .int 0, .ref xr, .ref xs])), (nme, .inr (4, [.ref nho, .ref ndk, .ref nsh, .ref nmi, .ref nba, .ref nde, .ref nbu, .int 1, .int 0, .null, .int 0, .int 0, .int 0])), (nho, .inr (3, [.int 0, .int 50, .int 0, .ref nhw, .ref nhs]))]) (QP (some (.int (-1)))) 0 0 (fun _ => False) := by
  refine Met.ofW (cc := cX11_move) (maxL := 7) (ret := (some .int)) (by decide) rfl ?_
  intro p e s m args below meth c s₁ B hml hv
  obtain ⟨rfl, hP, hK⟩ := hv
  have hx := B.exec
  have hb := B.bytes
  have hr := B.returns
  have hts : ∀ w ∈ lw_all, w.before _ s = true := fun w h => atoms_spec (ws := (ws_ yX11_move cX11_move 7 (some .int))) B.pre w (List.mem_cons_of_mem _ h)
  have hown : s.vm.findClass RX11 = some m.cls := findClass_of_methodNamed B.named
  have hlocks := B.notSynchronized
  have hP : va_P D vwCl [(x0, .inr (11, [.ref nme, .ref sme, .int 0, .ref xr, .ref xs])), (nme, .inr (4, [.ref nho, .ref ndk, .ref nsh, .ref nmi, .ref nba, .ref nde, .ref nbu, .int 1, .int 0, .null, .int 0, .int 0, .int 0])), (nho, .inr (3, [.int 0, .int 50, .int 0, .ref nhw, .ref nhs]))] s.heap := hP
  have hl := lv_entry ([.ref x0, .int p0, .int p1, .int p2, .int p3, .int p4]) (n := 7) (Nat.le_of_ble_eq_true rfl)
  rw [lg_entry_eq]
  generalize (lg_sl ([.ref x0, .int p0, .int p1, .int p2, .int p3, .int p4]) ++ List.replicate (7 - (lg_sl ([.ref x0, .int p0, .int p1, .int p2, .int p3, .int p4])).length) Slot.unset).toArray = ls at hl ⊢
  have hl : lv_has ls 7 [(0, .ref x0), (1, .int p0), (2, .int p1), (3, .int p2), (4, .int p3), (5, .int p4)] := hl
  refine lv_aload_n hx hb dX11_move_0 rfl (lv_at hl 0 rfl) ?_
  refine lv_iload_n hx hb dX11_move_1 rfl (lv_at hl 1 rfl) ?_
  refine lv_iload_n hx hb dX11_move_2 rfl (lv_at hl 2 rfl) ?_
  refine lv_iload_n hx hb dX11_move_3 rfl (lv_at hl 3 rfl) ?_
  refine lv_iload hx hb dX11_move_4 (lv_at hl 4 rfl) ?_
  refine lv_iload hx hb dX11_move_6 (lv_at hl 5 rfl) ?_
  refine p_call (va_runV (As := [.int p0, .int p1, .int p2, .int p3, .int p4]) (rest := []) ⟨hx, hb, hml, hown, hts⟩ (c_X11_rule l D cI cQ cM cR x0 nme sme xr xs nho ndk nsh nmi nba nde nbu nhw nhs p0 p1 p2 p3 p4) (cwV 5 hts (gV q_487 q_488 q_489 q_65 q_490) rfl rfl rfl (by decide +kernel) ⟨Nat.le_of_ble_eq_true rfl, Nat.le_of_ble_eq_true rfl⟩) ⟨PP_blind, va_recv hK hP (ci := 11) (q0 := 0) rfl rfl, PP_of hK (hP.sub [0, 1, 2] rfl)⟩ rfl rfl hl.1 rfl (lv_room (Nat.le_of_ble_eq_true rfl)) dX11_move_8 ⟨Nat.le_of_ble_eq_true rfl, Nat.le_of_ble_eq_true rfl⟩) ?_
  refine lv_istore (lv' := [(6, .int (-1)), (0, .ref x0), (1, .int p0), (2, .int p1), (3, .int p2), (4, .int p3), (5, .int p4)]) hx hb dX11_move_11 hl (by decide) rfl (fun ls hl => ?_)
  refine lv_iload hx hb dX11_move_13 (lv_at hl 0 rfl) ?_
  refine lv_if_ge (tgt := 21) hx hb dX11_move_15 (by decide) (fun c9 => absurd c9 (by decide)) (fun _ => ?_)
  refine lv_iload hx hb dX11_move_18 (lv_at hl 0 rfl) ?_
  exact W.iret hx hb hr (fun t ht hW => ⟨rfl, ht⟩) (fun q hq => absurd hq List.not_mem_nil) dX11_move_20
theorem dX11_decide_0 : decode cX11_decide 0 = .ok (.iload_n 1, 1) := by decide +kernel
theorem dX11_decide_1 : decode cX11_decide 1 = .ok (.iload_n 2, 1) := by decide +kernel
theorem dX11_decide_2 : decode cX11_decide 2 = .ok (.ior, 1) := by decide +kernel
theorem dX11_decide_3 : decode cX11_decide 3 = .ok (.aload_n 0, 1) := by decide +kernel
theorem dX11_decide_4 : decode cX11_decide 4 = .ok (.getfield 12, 3) := by decide +kernel
theorem dX11_decide_7 : decode cX11_decide 7 = .ok (.getfield 35, 3) := by decide +kernel
theorem dX11_decide_10 : decode cX11_decide 10 = .ok (.invokevirtual 99, 3) := by decide +kernel
theorem dX11_decide_13 : decode cX11_decide 13 = .ok (.iconst (-1), 1) := by decide +kernel
theorem dX11_decide_14 : decode cX11_decide 14 = .ok (.ixor, 1) := by decide +kernel
theorem dX11_decide_15 : decode cX11_decide 15 = .ok (.iand, 1) := by decide +kernel
theorem dX11_decide_16 : decode cX11_decide 16 = .ok (.ifCond .ne 9, 3) := by decide +kernel
theorem dX11_decide_19 : decode cX11_decide 19 = .ok (.iload_n 1, 1) := by decide +kernel
theorem dX11_decide_20 : decode cX11_decide 20 = .ok (.iload_n 2, 1) := by decide +kernel
theorem dX11_decide_21 : decode cX11_decide 21 = .ok (.iand, 1) := by decide +kernel
theorem dX11_decide_22 : decode cX11_decide 22 = .ok (.ifCond .eq 6, 3) := by decide +kernel
theorem dX11_decide_25 : decode cX11_decide 25 = .ok (.bipush (-2), 2) := by decide +kernel
theorem dX11_decide_27 : decode cX11_decide 27 = .ok (.ireturn, 1) := by decide +kernel
theorem dX11_decide_28 : decode cX11_decide 28 = .ok (.aload_n 0, 1) := by decide +kernel
theorem dX11_decide_29 : decode cX11_decide 29 = .ok (.getfield 12, 3) := by decide +kernel
theorem dX11_decide_32 : decode cX11_decide 32 = .ok (.getfield 102, 3) := by decide +kernel
theorem dX11_decide_35 : decode cX11_decide 35 = .ok (.astore_n 3, 1) := by decide +kernel
theorem dX11_decide_36 : decode cX11_decide 36 = .ok (.aload_n 3, 1) := by decide +kernel
theorem dX11_decide_37 : decode cX11_decide 37 = .ok (.ifnull 14, 3) := by decide +kernel
theorem dX11_decide_51 : decode cX11_decide 51 = .ok (.bipush (-3), 2) := by decide +kernel
theorem dX11_decide_53 : decode cX11_decide 53 = .ok (.ireturn, 1) := by decide +kernel
set_option maxRecDepth 100000 in
theorem q_513 : (.code yX3_everyone cX3_everyone 1 (some .int)) ∈ lw_all := List.mem_filter.mpr ⟨List.mem_of_getElem? (i := 513) (rfl), by decide +kernel⟩
set_option maxRecDepth 100000 in
theorem q_356 : (.fieldLink RX11 102 "AssemblyChair$Meeting" "top" "LAssemblyChair$Motion;") ∈ lw_all := List.mem_filter.mpr ⟨List.mem_of_getElem? (i := 356) (by decide +kernel), by decide +kernel⟩
set_option maxRecDepth 100000 in
theorem q_511 : (.instanceMethod yX3_everyone) ∈ lw_all := List.mem_filter.mpr ⟨List.mem_of_getElem? (i := 511) (by decide +kernel), by decide +kernel⟩
set_option maxRecDepth 100000 in
theorem q_686 : (.methodLink RX11 99 yX3_everyone) ∈ lw_all := List.mem_filter.mpr ⟨List.mem_of_getElem? (i := 686) (by decide +kernel), by decide +kernel⟩
set_option maxRecDepth 100000 in
theorem q_512 : (.selects RX3 yX3_everyone yX3_everyone) ∈ lw_all := List.mem_filter.mpr ⟨List.mem_of_getElem? (i := 512) (by decide +kernel), by decide +kernel⟩
set_option maxHeartbeats 4000000 in
set_option maxRecDepth 100000 in
theorem c_X11_decide (l : Launch) (D : va_G) (cI cQ cM cR : ClassId) (x0 : Nat) (nme : Nat) (sme : Nat) (xr : Nat) (xs : Nat) (nho : Nat) (ndk : Nat) (nsh : Nat) (nmi : Nat) (nba : Nat) (nde : Nat) (nbu : Nat) (nhw : Nat) (nhs : Nat) (p0 : Int32) (p1 : Int32) : Met l yX11_decide (ws_ yX11_decide cX11_decide 4 (some .int)) ({ frames := 1, cells := 0, slots := 0, locals := 20 }) (PP D cI cQ cM cR [.ref x0, .int p0, .int p1] [(x0, .inr (11, [.ref nme, .ref sme, .int 0, .ref xr, .ref xs])), (nme, .inr (4, [.ref nho, .ref ndk, .ref nsh, .ref nmi, .ref nba, .ref nde, .ref nbu, .int 1, .int 0, .null, .int 0, .int 0, .int 0])), (nho, .inr (3, [.int 0, .int 50, .int 0, .ref nhw, .ref nhs]))]) (QP (some (.int (sp_decide p0 p1)))) 0 0 (fun _ => False) := by
  refine Met.ofW (cc := cX11_decide) (maxL := 4) (ret := (some .int)) (by decide) rfl ?_
  intro p e s m args below meth c s₁ B hml hv
  obtain ⟨rfl, hP, hK⟩ := hv
  have hx := B.exec
  have hb := B.bytes
  have hr := B.returns
  have hts : ∀ w ∈ lw_all, w.before _ s = true := fun w h => atoms_spec (ws := (ws_ yX11_decide cX11_decide 4 (some .int))) B.pre w (List.mem_cons_of_mem _ h)
  have hown : s.vm.findClass RX11 = some m.cls := findClass_of_methodNamed B.named
  have hlocks := B.notSynchronized
  have hP : va_P D vwCl [(x0, .inr (11, [.ref nme, .ref sme, .int 0, .ref xr, .ref xs])), (nme, .inr (4, [.ref nho, .ref ndk, .ref nsh, .ref nmi, .ref nba, .ref nde, .ref nbu, .int 1, .int 0, .null, .int 0, .int 0, .int 0])), (nho, .inr (3, [.int 0, .int 50, .int 0, .ref nhw, .ref nhs]))] s.heap := hP
  have hl := lv_entry ([.ref x0, .int p0, .int p1]) (n := 4) (Nat.le_of_ble_eq_true rfl)
  rw [lg_entry_eq]
  generalize (lg_sl ([.ref x0, .int p0, .int p1]) ++ List.replicate (4 - (lg_sl ([.ref x0, .int p0, .int p1])).length) Slot.unset).toArray = ls at hl ⊢
  have hl : lv_has ls 4 [(0, .ref x0), (1, .int p0), (2, .int p1)] := hl
  refine lv_iload_n hx hb dX11_decide_0 rfl (lv_at hl 1 rfl) ?_
  refine lv_iload_n hx hb dX11_decide_1 rfl (lv_at hl 2 rfl) ?_
  refine lv_ior hx hb dX11_decide_2 ?_
  refine lv_aload_n hx hb dX11_decide_3 rfl (lv_at hl 0 rfl) ?_
  refine va_get (D := D) (ci := 11) (v := .ref nme) (C := RX11) (T := TX11) (N := 5) hx hb hts in_X11 hown hK hP 0 rfl rfl 0 (by decide) (hts _ q_412) (fun _ h9 => h9) rfl dX11_decide_4 ?_
  refine va_get (D := D) (ci := 4) (v := .ref nho) (C := RX4) (T := TX4) (N := 13) hx hb hts in_X4 hown hK hP 1 rfl rfl 0 (by decide) (hts _ q_338) (fun _ h9 => h9) rfl dX11_decide_7 ?_
  refine p_call (va_runV (As := []) (rest := [.int (p0 ||| p1)]) ⟨hx, hb, hml, hown, hts⟩ (c_X3_everyone l D cI cQ cM cR nho nhw nhs) (cwV 0 hts (gV q_686 q_511 q_512 q_67 q_513) rfl rfl rfl (by decide +kernel) ⟨Nat.le_of_ble_eq_true rfl, Nat.le_of_ble_eq_true rfl⟩) ⟨PP_blind, va_recv hK hP (ci := 3) (q0 := 2) rfl rfl, PP_of hK (hP.sub [2] rfl)⟩ rfl rfl hl.1 rfl (lv_room (Nat.le_of_ble_eq_true rfl)) dX11_decide_10 ⟨Nat.le_of_ble_eq_true rfl, Nat.le_of_ble_eq_true rfl⟩) ?_
  refine lv_iconst (v := (-1)) hx hb dX11_decide_13 (by decide) ?_
  refine lv_ixor hx hb dX11_decide_14 ?_
  refine lv_cst (v := (-1)) (by decide) ?_
  refine lv_iand hx hb dX11_decide_15 ?_
  refine lv_if_ne (tgt := 25) hx hb dX11_decide_16 (by decide) (fun c_1 => ?_) (fun c_1 => ?_)
  · refine lv_bipush (v := (-2)) hx hb dX11_decide_25 (by decide) ?_
    exact W.iret hx hb hr (fun t ht hW => ⟨by rw [sp_decide, if_neg (fun h => c_1 (by rw [h.1, h.2]; decide))], ht⟩) (fun q hq => absurd hq List.not_mem_nil) dX11_decide_27
  · refine lv_iload_n hx hb dX11_decide_19 rfl (lv_at hl 1 rfl) ?_
    refine lv_iload_n hx hb dX11_decide_20 rfl (lv_at hl 2 rfl) ?_
    refine lv_iand hx hb dX11_decide_21 ?_
    refine lv_if_eq (tgt := 28) hx hb dX11_decide_22 (by decide) (fun c_2 => ?_) (fun c_2 => ?_)
    · refine lv_aload_n hx hb dX11_decide_28 rfl (lv_at hl 0 rfl) ?_
      refine va_get (D := D) (ci := 11) (v := .ref nme) (C := RX11) (T := TX11) (N := 5) hx hb hts in_X11 hown hK hP 0 rfl rfl 0 (by decide) (hts _ q_412) (fun _ h9 => h9) rfl dX11_decide_29 ?_
      refine va_get (D := D) (ci := 4) (v := .null) (C := RX4) (T := TX4) (N := 13) hx hb hts in_X4 hown hK hP 1 rfl rfl 9 (by decide) (hts _ q_356) (fun _ h9 => h9) rfl dX11_decide_32 ?_
      refine lv_astore_nN (lv' := [(3, .null), (0, .ref x0), (1, .int p0), (2, .int p1)]) hx hb dX11_decide_35 rfl hl (by decide) rfl (fun ls hl => ?_)
      refine lv_aload_nN hx hb dX11_decide_36 rfl (lv_at hl 0 rfl) ?_
      refine lv_ifnullN (tgt := 51) hx hb dX11_decide_37 (by decide) ?_
      refine lv_bipush (v := (-3)) hx hb dX11_decide_51 (by decide) ?_
      exact W.iret hx hb hr (fun t ht hW => ⟨by rw [sp_decide, if_pos (dec_or c_1)], ht⟩) (fun q hq => absurd hq List.not_mem_nil) dX11_decide_53
    · refine lv_bipush (v := (-2)) hx hb dX11_decide_25 (by decide) ?_
      exact W.iret hx hb hr (fun t ht hW => ⟨by rw [sp_decide, if_neg (fun h => c_2 (by rw [h.1, h.2]; decide))], ht⟩) (fun q hq => absurd hq List.not_mem_nil) dX11_decide_27
theorem dX11_speak_0 : decode cX11_speak 0 = .ok (.aload_n 0, 1) := by decide +kernel
theorem dX11_speak_1 : decode cX11_speak 1 = .ok (.getfield 12, 3) := by decide +kernel
theorem dX11_speak_4 : decode cX11_speak 4 = .ok (.getfield 35, 3) := by decide +kernel
theorem dX11_speak_7 : decode cX11_speak 7 = .ok (.iload_n 1, 1) := by decide +kernel
theorem dX11_speak_8 : decode cX11_speak 8 = .ok (.invokevirtual 49, 3) := by decide +kernel
theorem dX11_speak_11 : decode cX11_speak 11 = .ok (.ifCond .ne 5, 3) := by decide +kernel
theorem dX11_speak_14 : decode cX11_speak 14 = .ok (.iconst (-1), 1) := by decide +kernel
theorem dX11_speak_15 : decode cX11_speak 15 = .ok (.ireturn, 1) := by decide +kernel
set_option maxHeartbeats 4000000 in
set_option maxRecDepth 100000 in
theorem c_X11_speak (l : Launch) (D : va_G) (cI cQ cM cR : ClassId) (x0 : Nat) (nme : Nat) (sme : Nat) (xr : Nat) (xs : Nat) (nho : Nat) (ndk : Nat) (nsh : Nat) (nmi : Nat) (nba : Nat) (nde : Nat) (nbu : Nat) (nhw : Nat) (nhs : Nat) (p0 : Int32) : Met l yX11_speak (ws_ yX11_speak cX11_speak 2 (some .int)) ({ frames := 1, cells := 0, slots := 0, locals := 21 }) (PP D cI cQ cM cR [.ref x0, .int p0] [(x0, .inr (11, [.ref nme, .ref sme, .int 0, .ref xr, .ref xs])), (nme, .inr (4, [.ref nho, .ref ndk, .ref nsh, .ref nmi, .ref nba, .ref nde, .ref nbu, .int 1, .int 0, .null, .int 0, .int 0, .int 0])), (nho, .inr (3, [.int 0, .int 50, .int 0, .ref nhw, .ref nhs]))]) (QP (some (.int (-1)))) 0 0 (fun _ => False) := by
  refine Met.ofW (cc := cX11_speak) (maxL := 2) (ret := (some .int)) (by decide) rfl ?_
  intro p e s m args below meth c s₁ B hml hv
  obtain ⟨rfl, hP, hK⟩ := hv
  have hx := B.exec
  have hb := B.bytes
  have hr := B.returns
  have hts : ∀ w ∈ lw_all, w.before _ s = true := fun w h => atoms_spec (ws := (ws_ yX11_speak cX11_speak 2 (some .int))) B.pre w (List.mem_cons_of_mem _ h)
  have hown : s.vm.findClass RX11 = some m.cls := findClass_of_methodNamed B.named
  have hlocks := B.notSynchronized
  have hP : va_P D vwCl [(x0, .inr (11, [.ref nme, .ref sme, .int 0, .ref xr, .ref xs])), (nme, .inr (4, [.ref nho, .ref ndk, .ref nsh, .ref nmi, .ref nba, .ref nde, .ref nbu, .int 1, .int 0, .null, .int 0, .int 0, .int 0])), (nho, .inr (3, [.int 0, .int 50, .int 0, .ref nhw, .ref nhs]))] s.heap := hP
  have hl := lv_entry ([.ref x0, .int p0]) (n := 2) (Nat.le_of_ble_eq_true rfl)
  rw [lg_entry_eq]
  generalize (lg_sl ([.ref x0, .int p0]) ++ List.replicate (2 - (lg_sl ([.ref x0, .int p0])).length) Slot.unset).toArray = ls at hl ⊢
  have hl : lv_has ls 2 [(0, .ref x0), (1, .int p0)] := hl
  refine lv_aload_n hx hb dX11_speak_0 rfl (lv_at hl 0 rfl) ?_
  refine va_get (D := D) (ci := 11) (v := .ref nme) (C := RX11) (T := TX11) (N := 5) hx hb hts in_X11 hown hK hP 0 rfl rfl 0 (by decide) (hts _ q_412) (fun _ h9 => h9) rfl dX11_speak_1 ?_
  refine va_get (D := D) (ci := 4) (v := .ref nho) (C := RX4) (T := TX4) (N := 13) hx hb hts in_X4 hown hK hP 1 rfl rfl 0 (by decide) (hts _ q_338) (fun _ h9 => h9) rfl dX11_speak_4 ?_
  refine lv_iload_n hx hb dX11_speak_7 rfl (lv_at hl 1 rfl) ?_
  refine p_call (va_runV (As := [.int p0]) (rest := []) ⟨hx, hb, hml, hown, hts⟩ (c_X3_has l D cI cQ cM cR nho nhw nhs p0) (cwV 1 hts (gV q_444 q_445 q_446 q_67 q_447) rfl rfl rfl (by decide +kernel) ⟨Nat.le_of_ble_eq_true rfl, Nat.le_of_ble_eq_true rfl⟩) ⟨PP_blind, va_recv hK hP (ci := 3) (q0 := 2) rfl rfl, PP_of hK (hP.sub [2] rfl)⟩ rfl rfl hl.1 rfl (lv_room (Nat.le_of_ble_eq_true rfl)) dX11_speak_8 ⟨Nat.le_of_ble_eq_true rfl, Nat.le_of_ble_eq_true rfl⟩) ?_
  refine lv_if_ne (tgt := 16) hx hb dX11_speak_11 (by decide) (fun c9 => absurd (by decide) c9) (fun _ => ?_)
  refine lv_iconst (v := (-1)) hx hb dX11_speak_14 (by decide) ?_
  exact W.iret hx hb hr (fun t ht hW => ⟨rfl, ht⟩) (fun q hq => absurd hq List.not_mem_nil) dX11_speak_15
theorem dX11_divide_0 : decode cX11_divide 0 = .ok (.aload_n 0, 1) := by decide +kernel
theorem dX11_divide_1 : decode cX11_divide 1 = .ok (.getfield 12, 3) := by decide +kernel
theorem dX11_divide_4 : decode cX11_divide 4 = .ok (.getfield 102, 3) := by decide +kernel
theorem dX11_divide_7 : decode cX11_divide 7 = .ok (.astore_n 2, 1) := by decide +kernel
theorem dX11_divide_8 : decode cX11_divide 8 = .ok (.aload_n 0, 1) := by decide +kernel
theorem dX11_divide_9 : decode cX11_divide 9 = .ok (.getfield 12, 3) := by decide +kernel
theorem dX11_divide_12 : decode cX11_divide 12 = .ok (.invokevirtual 124, 3) := by decide +kernel
theorem dX11_divide_15 : decode cX11_divide 15 = .ok (.astore_n 3, 1) := by decide +kernel
theorem dX11_divide_16 : decode cX11_divide 16 = .ok (.aload_n 2, 1) := by decide +kernel
theorem dX11_divide_17 : decode cX11_divide 17 = .ok (.ifnull 14, 3) := by decide +kernel
theorem dX11_divide_31 : decode cX11_divide 31 = .ok (.bipush (-3), 2) := by decide +kernel
theorem dX11_divide_33 : decode cX11_divide 33 = .ok (.ireturn, 1) := by decide +kernel
set_option maxRecDepth 100000 in
theorem q_528 : (.code yX4_pendingQuestion cX4_pendingQuestion 1 (some (.object "AssemblyChair$Question"))) ∈ lw_all := List.mem_filter.mpr ⟨List.mem_of_getElem? (i := 528) (rfl), by decide +kernel⟩
set_option maxRecDepth 100000 in
theorem q_526 : (.instanceMethod yX4_pendingQuestion) ∈ lw_all := List.mem_filter.mpr ⟨List.mem_of_getElem? (i := 526) (by decide +kernel), by decide +kernel⟩
set_option maxRecDepth 100000 in
theorem q_525 : (.methodLink RX11 124 yX4_pendingQuestion) ∈ lw_all := List.mem_filter.mpr ⟨List.mem_of_getElem? (i := 525) (by decide +kernel), by decide +kernel⟩
set_option maxRecDepth 100000 in
theorem q_527 : (.selects RX4 yX4_pendingQuestion yX4_pendingQuestion) ∈ lw_all := List.mem_filter.mpr ⟨List.mem_of_getElem? (i := 527) (by decide +kernel), by decide +kernel⟩
set_option maxHeartbeats 4000000 in
set_option maxRecDepth 100000 in
theorem c_X11_divide (l : Launch) (D : va_G) (cI cQ cM cR : ClassId) (x0 : Nat) (nme : Nat) (sme : Nat) (xr : Nat) (xs : Nat) (nho : Nat) (ndk : Nat) (nsh : Nat) (nmi : Nat) (nba : Nat) (nde : Nat) (nbu : Nat) (p0 : Int32) : Met l yX11_divide (ws_ yX11_divide cX11_divide 4 (some .int)) ({ frames := 1, cells := 0, slots := 0, locals := 20 }) (PP D cI cQ cM cR [.ref x0, .int p0] [(x0, .inr (11, [.ref nme, .ref sme, .int 0, .ref xr, .ref xs])), (nme, .inr (4, [.ref nho, .ref ndk, .ref nsh, .ref nmi, .ref nba, .ref nde, .ref nbu, .int 1, .int 0, .null, .int 0, .int 0, .int 0]))]) (QP (some (.int (-3)))) 0 0 (fun _ => False) := by
  refine Met.ofW (cc := cX11_divide) (maxL := 4) (ret := (some .int)) (by decide) rfl ?_
  intro p e s m args below meth c s₁ B hml hv
  obtain ⟨rfl, hP, hK⟩ := hv
  have hx := B.exec
  have hb := B.bytes
  have hr := B.returns
  have hts : ∀ w ∈ lw_all, w.before _ s = true := fun w h => atoms_spec (ws := (ws_ yX11_divide cX11_divide 4 (some .int))) B.pre w (List.mem_cons_of_mem _ h)
  have hown : s.vm.findClass RX11 = some m.cls := findClass_of_methodNamed B.named
  have hlocks := B.notSynchronized
  have hP : va_P D vwCl [(x0, .inr (11, [.ref nme, .ref sme, .int 0, .ref xr, .ref xs])), (nme, .inr (4, [.ref nho, .ref ndk, .ref nsh, .ref nmi, .ref nba, .ref nde, .ref nbu, .int 1, .int 0, .null, .int 0, .int 0, .int 0]))] s.heap := hP
  have hl := lv_entry ([.ref x0, .int p0]) (n := 4) (Nat.le_of_ble_eq_true rfl)
  rw [lg_entry_eq]
  generalize (lg_sl ([.ref x0, .int p0]) ++ List.replicate (4 - (lg_sl ([.ref x0, .int p0])).length) Slot.unset).toArray = ls at hl ⊢
  have hl : lv_has ls 4 [(0, .ref x0), (1, .int p0)] := hl
  refine lv_aload_n hx hb dX11_divide_0 rfl (lv_at hl 0 rfl) ?_
  refine va_get (D := D) (ci := 11) (v := .ref nme) (C := RX11) (T := TX11) (N := 5) hx hb hts in_X11 hown hK hP 0 rfl rfl 0 (by decide) (hts _ q_412) (fun _ h9 => h9) rfl dX11_divide_1 ?_
  refine va_get (D := D) (ci := 4) (v := .null) (C := RX4) (T := TX4) (N := 13) hx hb hts in_X4 hown hK hP 1 rfl rfl 9 (by decide) (hts _ q_356) (fun _ h9 => h9) rfl dX11_divide_4 ?_
  refine lv_astore_nN (lv' := [(2, .null), (0, .ref x0), (1, .int p0)]) hx hb dX11_divide_7 rfl hl (by decide) rfl (fun ls hl => ?_)
  refine lv_aload_n hx hb dX11_divide_8 rfl (lv_at hl 1 rfl) ?_
  refine va_get (D := D) (ci := 11) (v := .ref nme) (C := RX11) (T := TX11) (N := 5) hx hb hts in_X11 hown hK hP 0 rfl rfl 0 (by decide) (hts _ q_412) (fun _ h9 => h9) rfl dX11_divide_9 ?_
  refine p_call (va_runV (As := []) (rest := []) ⟨hx, hb, hml, hown, hts⟩ (c_X4_pendingQuestion l D cI cQ cM cR nme nho ndk nsh nmi nba nde nbu) (cwV 0 hts (gV q_525 q_526 q_527 q_66 q_528) rfl rfl rfl (by decide +kernel) ⟨Nat.le_of_ble_eq_true rfl, Nat.le_of_ble_eq_true rfl⟩) ⟨PP_blind, va_recv hK hP (ci := 4) (q0 := 1) rfl rfl, PP_of hK (hP.sub [1] rfl)⟩ rfl rfl hl.1 rfl (lv_room (Nat.le_of_ble_eq_true rfl)) dX11_divide_12 ⟨Nat.le_of_ble_eq_true rfl, Nat.le_of_ble_eq_true rfl⟩) ?_
  refine lv_astore_nN (lv' := [(3, .null), (2, .null), (0, .ref x0), (1, .int p0)]) hx hb dX11_divide_15 rfl hl (by decide) rfl (fun ls hl => ?_)
  refine lv_aload_nN hx hb dX11_divide_16 rfl (lv_at hl 1 rfl) ?_
  refine lv_ifnullN (tgt := 31) hx hb dX11_divide_17 (by decide) ?_
  refine lv_bipush (v := (-3)) hx hb dX11_divide_31 (by decide) ?_
  exact W.iret hx hb hr (fun t ht hW => ⟨rfl, ht⟩) (fun q hq => absurd hq List.not_mem_nil) dX11_divide_33
theorem dX11_report_0 : decode cX11_report 0 = .ok (.iload_n 1, 1) := by decide +kernel
theorem dX11_report_1 : decode cX11_report 1 = .ok (.ifCond .lt 8, 3) := by decide +kernel
theorem dX11_report_4 : decode cX11_report 4 = .ok (.iload_n 1, 1) := by decide +kernel
theorem dX11_report_5 : decode cX11_report 5 = .ok (.iconst 4, 1) := by decide +kernel
theorem dX11_report_6 : decode cX11_report 6 = .ok (.if_icmp .lt 5, 3) := by decide +kernel
theorem dX11_report_9 : decode cX11_report 9 = .ok (.iconst (-1), 1) := by decide +kernel
theorem dX11_report_10 : decode cX11_report 10 = .ok (.ireturn, 1) := by decide +kernel
theorem dX11_report_11 : decode cX11_report 11 = .ok (.aload_n 0, 1) := by decide +kernel
theorem dX11_report_12 : decode cX11_report 12 = .ok (.getfield 12, 3) := by decide +kernel
theorem dX11_report_15 : decode cX11_report 15 = .ok (.getfield 147, 3) := by decide +kernel
theorem dX11_report_18 : decode cX11_report 18 = .ok (.iload_n 1, 1) := by decide +kernel
theorem dX11_report_19 : decode cX11_report 19 = .ok (.invokevirtual 151, 3) := by decide +kernel
theorem dX11_report_22 : decode cX11_report 22 = .ok (.istore_n 2, 1) := by decide +kernel
theorem dX11_report_23 : decode cX11_report 23 = .ok (.iload_n 2, 1) := by decide +kernel
theorem dX11_report_24 : decode cX11_report 24 = .ok (.iconst (-1), 1) := by decide +kernel
theorem dX11_report_25 : decode cX11_report 25 = .ok (.if_icmp .eq 23, 3) := by decide +kernel
theorem dX11_report_48 : decode cX11_report 48 = .ok (.bipush (-3), 2) := by decide +kernel
theorem dX11_report_50 : decode cX11_report 50 = .ok (.ireturn, 1) := by decide +kernel
set_option maxRecDepth 100000 in
theorem q_342 : (.fieldLink RX11 147 "AssemblyChair$Meeting" "shelf" "LAssemblyChair$Shelf;") ∈ lw_all := List.mem_filter.mpr ⟨List.mem_of_getElem? (i := 342) (by decide +kernel), by decide +kernel⟩
set_option maxRecDepth 100000 in
theorem q_575 : (.methodLink RX11 151 yX9_firstInCommittee) ∈ lw_all := List.mem_filter.mpr ⟨List.mem_of_getElem? (i := 575) (by decide +kernel), by decide +kernel⟩
set_option maxHeartbeats 4000000 in
set_option maxRecDepth 100000 in
theorem c_X11_report (l : Launch) (D : va_G) (cI cQ cM cR : ClassId) (x0 : Nat) (nme : Nat) (sme : Nat) (xr : Nat) (xs : Nat) (nho : Nat) (ndk : Nat) (nsh : Nat) (nmi : Nat) (nba : Nat) (nde : Nat) (nbu : Nat) (nst : Nat) (nss : Nat) (nsp : Nat) (p0 : Int32) : Met l yX11_report (ws_ yX11_report cX11_report 3 (some .int)) ({ frames := 1, cells := 0, slots := 0, locals := 22 }) (PP D cI cQ cM cR [.ref x0, .int p0] [(x0, .inr (11, [.ref nme, .ref sme, .int 0, .ref xr, .ref xs])), (nme, .inr (4, [.ref nho, .ref ndk, .ref nsh, .ref nmi, .ref nba, .ref nde, .ref nbu, .int 1, .int 0, .null, .int 0, .int 0, .int 0])), (nsh, .inr (9, [.int 0, .ref nst, .ref nss, .ref nsp]))]) (QP (some (.int (sp_report p0)))) 0 0 (fun _ => False) := by
  refine Met.ofW (cc := cX11_report) (maxL := 3) (ret := (some .int)) (by decide) rfl ?_
  intro p e s m args below meth c s₁ B hml hv
  obtain ⟨rfl, hP, hK⟩ := hv
  have hx := B.exec
  have hb := B.bytes
  have hr := B.returns
  have hts : ∀ w ∈ lw_all, w.before _ s = true := fun w h => atoms_spec (ws := (ws_ yX11_report cX11_report 3 (some .int))) B.pre w (List.mem_cons_of_mem _ h)
  have hown : s.vm.findClass RX11 = some m.cls := findClass_of_methodNamed B.named
  have hlocks := B.notSynchronized
  have hP : va_P D vwCl [(x0, .inr (11, [.ref nme, .ref sme, .int 0, .ref xr, .ref xs])), (nme, .inr (4, [.ref nho, .ref ndk, .ref nsh, .ref nmi, .ref nba, .ref nde, .ref nbu, .int 1, .int 0, .null, .int 0, .int 0, .int 0])), (nsh, .inr (9, [.int 0, .ref nst, .ref nss, .ref nsp]))] s.heap := hP
  have hl := lv_entry ([.ref x0, .int p0]) (n := 3) (Nat.le_of_ble_eq_true rfl)
  rw [lg_entry_eq]
  generalize (lg_sl ([.ref x0, .int p0]) ++ List.replicate (3 - (lg_sl ([.ref x0, .int p0])).length) Slot.unset).toArray = ls at hl ⊢
  have hl : lv_has ls 3 [(0, .ref x0), (1, .int p0)] := hl
  refine lv_iload_n hx hb dX11_report_0 rfl (lv_at hl 1 rfl) ?_
  refine lv_if_lt (tgt := 9) hx hb dX11_report_1 (by decide) (fun c_1 => ?_) (fun c_1 => ?_)
  · refine lv_iconst (v := (-1)) hx hb dX11_report_9 (by decide) ?_
    exact W.iret hx hb hr (fun t ht hW => ⟨by first | rfl | (simp only [sp_report, c_1, ↓reduceIte, if_true, if_false, not_true_eq_false, not_false_eq_true]; done) | (simp [sp_report, c_1]; done), ht⟩) (fun q hq => absurd hq List.not_mem_nil) dX11_report_10
  · refine lv_iload_n hx hb dX11_report_4 rfl (lv_at hl 1 rfl) ?_
    refine lv_iconst (v := 4) hx hb dX11_report_5 (by decide) ?_
    refine lv_icmp_lt (tgt := 11) hx hb dX11_report_6 (by decide) (fun c_2 => ?_) (fun c_2 => ?_)
    · refine lv_aload_n hx hb dX11_report_11 rfl (lv_at hl 0 rfl) ?_
      refine va_get (D := D) (ci := 11) (v := .ref nme) (C := RX11) (T := TX11) (N := 5) hx hb hts in_X11 hown hK hP 0 rfl rfl 0 (by decide) (hts _ q_412) (fun _ h9 => h9) rfl dX11_report_12 ?_
      refine va_get (D := D) (ci := 4) (v := .ref nsh) (C := RX4) (T := TX4) (N := 13) hx hb hts in_X4 hown hK hP 1 rfl rfl 2 (by decide) (hts _ q_342) (fun _ h9 => h9) rfl dX11_report_15 ?_
      refine lv_iload_n hx hb dX11_report_18 rfl (lv_at hl 1 rfl) ?_
      refine p_call (va_runV (As := [.int p0]) (rest := []) ⟨hx, hb, hml, hown, hts⟩ (c_X9_firstInCommittee l D cI cQ cM cR nsh nst nss nsp p0) (cwV 1 hts (gV q_575 q_576 q_577 q_71 q_578) rfl rfl rfl (by decide +kernel) ⟨Nat.le_of_ble_eq_true rfl, Nat.le_of_ble_eq_true rfl⟩) ⟨PP_blind, va_recv hK hP (ci := 9) (q0 := 2) rfl rfl, PP_of hK (hP.sub [2] rfl)⟩ rfl rfl hl.1 rfl (lv_room (Nat.le_of_ble_eq_true rfl)) dX11_report_19 ⟨Nat.le_of_ble_eq_true rfl, Nat.le_of_ble_eq_true rfl⟩) ?_
      refine lv_istore_n (lv' := [(2, .int (-1)), (0, .ref x0), (1, .int p0)]) hx hb dX11_report_22 rfl hl (by decide) rfl (fun ls hl => ?_)
      refine lv_iload_n hx hb dX11_report_23 rfl (lv_at hl 0 rfl) ?_
      refine lv_iconst (v := (-1)) hx hb dX11_report_24 (by decide) ?_
      refine lv_icmp_eq (tgt := 48) hx hb dX11_report_25 (by decide) (fun _ => ?_) (fun c9 => absurd (by decide) c9)
      refine lv_bipush (v := (-3)) hx hb dX11_report_48 (by decide) ?_
      exact W.iret hx hb hr (fun t ht hW => ⟨by first | rfl | (simp only [sp_report, c_1, c_2, ↓reduceIte, if_true, if_false, not_true_eq_false, not_false_eq_true]; done) | (simp [sp_report, c_1, c_2]; done), ht⟩) (fun q hq => absurd hq List.not_mem_nil) dX11_report_50
    · refine lv_iconst (v := (-1)) hx hb dX11_report_9 (by decide) ?_
      exact W.iret hx hb hr (fun t ht hW => ⟨by first | rfl | (simp only [sp_report, c_1, c_2, ↓reduceIte, if_true, if_false, not_true_eq_false, not_false_eq_true]; done) | (simp [sp_report, c_1, c_2]; done), ht⟩) (fun q hq => absurd hq List.not_mem_nil) dX11_report_10
theorem dX11_next_0 : decode cX11_next 0 = .ok (.aload_n 0, 1) := by decide +kernel
theorem dX11_next_1 : decode cX11_next 1 = .ok (.getfield 12, 3) := by decide +kernel
theorem dX11_next_4 : decode cX11_next 4 = .ok (.getfield 102, 3) := by decide +kernel
theorem dX11_next_7 : decode cX11_next 7 = .ok (.ifnonnull 13, 3) := by decide +kernel
theorem dX11_next_10 : decode cX11_next 10 = .ok (.aload_n 0, 1) := by decide +kernel
theorem dX11_next_11 : decode cX11_next 11 = .ok (.getfield 12, 3) := by decide +kernel
theorem dX11_next_14 : decode cX11_next 14 = .ok (.getfield 83, 3) := by decide +kernel
theorem dX11_next_17 : decode cX11_next 17 = .ok (.ifCond .ne 6, 3) := by decide +kernel
theorem dX11_next_23 : decode cX11_next 23 = .ok (.aload_n 0, 1) := by decide +kernel
theorem dX11_next_24 : decode cX11_next 24 = .ok (.getfield 12, 3) := by decide +kernel
theorem dX11_next_27 : decode cX11_next 27 = .ok (.getfield 147, 3) := by decide +kernel
theorem dX11_next_30 : decode cX11_next 30 = .ok (.aload_n 0, 1) := by decide +kernel
theorem dX11_next_31 : decode cX11_next 31 = .ok (.getfield 12, 3) := by decide +kernel
theorem dX11_next_34 : decode cX11_next 34 = .ok (.getfield 80, 3) := by decide +kernel
theorem dX11_next_37 : decode cX11_next 37 = .ok (.invokevirtual 159, 3) := by decide +kernel
theorem dX11_next_40 : decode cX11_next 40 = .ok (.istore_n 1, 1) := by decide +kernel
theorem dX11_next_41 : decode cX11_next 41 = .ok (.iload_n 1, 1) := by decide +kernel
theorem dX11_next_42 : decode cX11_next 42 = .ok (.iconst (-1), 1) := by decide +kernel
theorem dX11_next_43 : decode cX11_next 43 = .ok (.if_icmp .ne 6, 3) := by decide +kernel
theorem dX11_next_46 : decode cX11_next 46 = .ok (.bipush (-5), 2) := by decide +kernel
theorem dX11_next_48 : decode cX11_next 48 = .ok (.ireturn, 1) := by decide +kernel
set_option maxRecDepth 100000 in
theorem q_848 : (.code yX9_firstDue cX9_firstDue 5 (some .int)) ∈ lw_all := List.mem_filter.mpr ⟨List.mem_of_getElem? (i := 848) (rfl), by decide +kernel⟩
set_option maxRecDepth 100000 in
theorem q_354 : (.fieldLink RX11 80 "AssemblyChair$Meeting" "minute" "I") ∈ lw_all := List.mem_filter.mpr ⟨List.mem_of_getElem? (i := 354) (by decide +kernel), by decide +kernel⟩
set_option maxRecDepth 100000 in
theorem q_352 : (.fieldLink RX11 83 "AssemblyChair$Meeting" "isOpen" "Z") ∈ lw_all := List.mem_filter.mpr ⟨List.mem_of_getElem? (i := 352) (by decide +kernel), by decide +kernel⟩
set_option maxRecDepth 100000 in
theorem q_846 : (.instanceMethod yX9_firstDue) ∈ lw_all := List.mem_filter.mpr ⟨List.mem_of_getElem? (i := 846) (by decide +kernel), by decide +kernel⟩
set_option maxRecDepth 100000 in
theorem q_845 : (.methodLink RX11 159 yX9_firstDue) ∈ lw_all := List.mem_filter.mpr ⟨List.mem_of_getElem? (i := 845) (by decide +kernel), by decide +kernel⟩
set_option maxRecDepth 100000 in
theorem q_847 : (.selects RX9 yX9_firstDue yX9_firstDue) ∈ lw_all := List.mem_filter.mpr ⟨List.mem_of_getElem? (i := 847) (by decide +kernel), by decide +kernel⟩
set_option maxHeartbeats 4000000 in
set_option maxRecDepth 100000 in
theorem c_X11_next (l : Launch) (D : va_G) (cI cQ cM cR : ClassId) (x0 : Nat) (nme : Nat) (sme : Nat) (xr : Nat) (xs : Nat) (nho : Nat) (ndk : Nat) (nsh : Nat) (nmi : Nat) (nba : Nat) (nde : Nat) (nbu : Nat) (nst : Nat) (nss : Nat) (nsp : Nat) : Met l yX11_next (ws_ yX11_next cX11_next 2 (some .int)) ({ frames := 1, cells := 0, slots := 0, locals := 24 }) (PP D cI cQ cM cR [.ref x0] [(x0, .inr (11, [.ref nme, .ref sme, .int 0, .ref xr, .ref xs])), (nme, .inr (4, [.ref nho, .ref ndk, .ref nsh, .ref nmi, .ref nba, .ref nde, .ref nbu, .int 1, .int 0, .null, .int 0, .int 0, .int 0])), (nsh, .inr (9, [.int 0, .ref nst, .ref nss, .ref nsp]))]) (QP (some (.int (-5)))) 0 0 (fun _ => False) := by
  refine Met.ofW (cc := cX11_next) (maxL := 2) (ret := (some .int)) (by decide) rfl ?_
  intro p e s m args below meth c s₁ B hml hv
  obtain ⟨rfl, hP, hK⟩ := hv
  have hx := B.exec
  have hb := B.bytes
  have hr := B.returns
  have hts : ∀ w ∈ lw_all, w.before _ s = true := fun w h => atoms_spec (ws := (ws_ yX11_next cX11_next 2 (some .int))) B.pre w (List.mem_cons_of_mem _ h)
  have hown : s.vm.findClass RX11 = some m.cls := findClass_of_methodNamed B.named
  have hlocks := B.notSynchronized
  have hP : va_P D vwCl [(x0, .inr (11, [.ref nme, .ref sme, .int 0, .ref xr, .ref xs])), (nme, .inr (4, [.ref nho, .ref ndk, .ref nsh, .ref nmi, .ref nba, .ref nde, .ref nbu, .int 1, .int 0, .null, .int 0, .int 0, .int 0])), (nsh, .inr (9, [.int 0, .ref nst, .ref nss, .ref nsp]))] s.heap := hP
  have hl := lv_entry ([.ref x0]) (n := 2) (Nat.le_of_ble_eq_true rfl)
  rw [lg_entry_eq]
  generalize (lg_sl ([.ref x0]) ++ List.replicate (2 - (lg_sl ([.ref x0])).length) Slot.unset).toArray = ls at hl ⊢
  have hl : lv_has ls 2 [(0, .ref x0)] := hl
  refine lv_aload_n hx hb dX11_next_0 rfl (lv_at hl 0 rfl) ?_
  refine va_get (D := D) (ci := 11) (v := .ref nme) (C := RX11) (T := TX11) (N := 5) hx hb hts in_X11 hown hK hP 0 rfl rfl 0 (by decide) (hts _ q_412) (fun _ h9 => h9) rfl dX11_next_1 ?_
  refine va_get (D := D) (ci := 4) (v := .null) (C := RX4) (T := TX4) (N := 13) hx hb hts in_X4 hown hK hP 1 rfl rfl 9 (by decide) (hts _ q_356) (fun _ h9 => h9) rfl dX11_next_4 ?_
  refine lv_ifnonnullN hx hb dX11_next_7 ?_
  refine lv_aload_n hx hb dX11_next_10 rfl (lv_at hl 0 rfl) ?_
  refine va_get (D := D) (ci := 11) (v := .ref nme) (C := RX11) (T := TX11) (N := 5) hx hb hts in_X11 hown hK hP 0 rfl rfl 0 (by decide) (hts _ q_412) (fun _ h9 => h9) rfl dX11_next_11 ?_
  refine va_get (D := D) (ci := 4) (v := .int 1) (C := RX4) (T := TX4) (N := 13) hx hb hts in_X4 hown hK hP 1 rfl rfl 7 (by decide) (hts _ q_352) (fun _ h9 => h9) rfl dX11_next_14 ?_
  refine lv_if_ne (tgt := 23) hx hb dX11_next_17 (by decide) (fun _ => ?_) (fun c9 => absurd c9 (by decide))
  refine lv_aload_n hx hb dX11_next_23 rfl (lv_at hl 0 rfl) ?_
  refine va_get (D := D) (ci := 11) (v := .ref nme) (C := RX11) (T := TX11) (N := 5) hx hb hts in_X11 hown hK hP 0 rfl rfl 0 (by decide) (hts _ q_412) (fun _ h9 => h9) rfl dX11_next_24 ?_
  refine va_get (D := D) (ci := 4) (v := .ref nsh) (C := RX4) (T := TX4) (N := 13) hx hb hts in_X4 hown hK hP 1 rfl rfl 2 (by decide) (hts _ q_342) (fun _ h9 => h9) rfl dX11_next_27 ?_
  refine lv_aload_n hx hb dX11_next_30 rfl (lv_at hl 0 rfl) ?_
  refine va_get (D := D) (ci := 11) (v := .ref nme) (C := RX11) (T := TX11) (N := 5) hx hb hts in_X11 hown hK hP 0 rfl rfl 0 (by decide) (hts _ q_412) (fun _ h9 => h9) rfl dX11_next_31 ?_
  refine va_get (D := D) (ci := 4) (v := .int 0) (C := RX4) (T := TX4) (N := 13) hx hb hts in_X4 hown hK hP 1 rfl rfl 8 (by decide) (hts _ q_354) (fun _ h9 => h9) rfl dX11_next_34 ?_
  refine p_call (va_runV (As := [.int 0]) (rest := []) ⟨hx, hb, hml, hown, hts⟩ (c_X9_firstDue l D cI cQ cM cR nsh nst nss nsp 0) (cwV 1 hts (gV q_845 q_846 q_847 q_71 q_848) rfl rfl rfl (by decide +kernel) ⟨Nat.le_of_ble_eq_true rfl, Nat.le_of_ble_eq_true rfl⟩) ⟨PP_blind, va_recv hK hP (ci := 9) (q0 := 2) rfl rfl, PP_of hK (hP.sub [2] rfl)⟩ rfl rfl hl.1 rfl (lv_room (Nat.le_of_ble_eq_true rfl)) dX11_next_37 ⟨Nat.le_of_ble_eq_true rfl, Nat.le_of_ble_eq_true rfl⟩) ?_
  refine lv_istore_n (lv' := [(1, .int (-1)), (0, .ref x0)]) hx hb dX11_next_40 rfl hl (by decide) rfl (fun ls hl => ?_)
  refine lv_iload_n hx hb dX11_next_41 rfl (lv_at hl 0 rfl) ?_
  refine lv_iconst (v := (-1)) hx hb dX11_next_42 (by decide) ?_
  refine lv_icmp_ne (tgt := 49) hx hb dX11_next_43 (by decide) (fun c9 => absurd (by decide) c9) (fun _ => ?_)
  refine lv_bipush (v := (-5)) hx hb dX11_next_46 (by decide) ?_
  exact W.iret hx hb hr (fun t ht hW => ⟨rfl, ht⟩) (fun q hq => absurd hq List.not_mem_nil) dX11_next_48
theorem dX11_open_0 : decode cX11_open 0 = .ok (.aload_n 0, 1) := by decide +kernel
theorem dX11_open_1 : decode cX11_open 1 = .ok (.getfield 12, 3) := by decide +kernel
theorem dX11_open_4 : decode cX11_open 4 = .ok (.getfield 83, 3) := by decide +kernel
theorem dX11_open_7 : decode cX11_open 7 = .ok (.ifCond .eq 6, 3) := by decide +kernel
theorem dX11_open_10 : decode cX11_open 10 = .ok (.bipush (-3), 2) := by decide +kernel
theorem dX11_open_12 : decode cX11_open 12 = .ok (.ireturn, 1) := by decide +kernel
set_option maxHeartbeats 4000000 in
set_option maxRecDepth 100000 in
theorem c_X11_open (l : Launch) (D : va_G) (cI cQ cM cR : ClassId) (x0 : Nat) (nme : Nat) (sme : Nat) (xr : Nat) (xs : Nat) (nho : Nat) (ndk : Nat) (nsh : Nat) (nmi : Nat) (nba : Nat) (nde : Nat) (nbu : Nat) : Met l yX11_open (ws_ yX11_open cX11_open 1 (some .int)) ({ frames := 0, cells := 0, slots := 0, locals := 0 }) (PP D cI cQ cM cR [.ref x0] [(x0, .inr (11, [.ref nme, .ref sme, .int 0, .ref xr, .ref xs])), (nme, .inr (4, [.ref nho, .ref ndk, .ref nsh, .ref nmi, .ref nba, .ref nde, .ref nbu, .int 1, .int 0, .null, .int 0, .int 0, .int 0]))]) (QP (some (.int (-3)))) 0 0 (fun _ => False) := by
  refine Met.ofW (cc := cX11_open) (maxL := 1) (ret := (some .int)) (by decide) rfl ?_
  intro p e s m args below meth c s₁ B hml hv
  obtain ⟨rfl, hP, hK⟩ := hv
  have hx := B.exec
  have hb := B.bytes
  have hr := B.returns
  have hts : ∀ w ∈ lw_all, w.before _ s = true := fun w h => atoms_spec (ws := (ws_ yX11_open cX11_open 1 (some .int))) B.pre w (List.mem_cons_of_mem _ h)
  have hown : s.vm.findClass RX11 = some m.cls := findClass_of_methodNamed B.named
  have hlocks := B.notSynchronized
  have hP : va_P D vwCl [(x0, .inr (11, [.ref nme, .ref sme, .int 0, .ref xr, .ref xs])), (nme, .inr (4, [.ref nho, .ref ndk, .ref nsh, .ref nmi, .ref nba, .ref nde, .ref nbu, .int 1, .int 0, .null, .int 0, .int 0, .int 0]))] s.heap := hP
  have hl := lv_entry ([.ref x0]) (n := 1) (Nat.le_of_ble_eq_true rfl)
  rw [lg_entry_eq]
  generalize (lg_sl ([.ref x0]) ++ List.replicate (1 - (lg_sl ([.ref x0])).length) Slot.unset).toArray = ls at hl ⊢
  have hl : lv_has ls 1 [(0, .ref x0)] := hl
  refine lv_aload_n hx hb dX11_open_0 rfl (lv_at hl 0 rfl) ?_
  refine va_get (D := D) (ci := 11) (v := .ref nme) (C := RX11) (T := TX11) (N := 5) hx hb hts in_X11 hown hK hP 0 rfl rfl 0 (by decide) (hts _ q_412) (fun _ h9 => h9) rfl dX11_open_1 ?_
  refine va_get (D := D) (ci := 4) (v := .int 1) (C := RX4) (T := TX4) (N := 13) hx hb hts in_X4 hown hK hP 1 rfl rfl 7 (by decide) (hts _ q_352) (fun _ h9 => h9) rfl dX11_open_4 ?_
  refine lv_if_eq (tgt := 13) hx hb dX11_open_7 (by decide) (fun c9 => absurd c9 (by decide)) (fun _ => ?_)
  refine lv_bipush (v := (-3)) hx hb dX11_open_10 (by decide) ?_
  exact W.iret hx hb hr (fun t ht hW => ⟨rfl, ht⟩) (fun q hq => absurd hq List.not_mem_nil) dX11_open_12
theorem dX11_pending_0 : decode cX11_pending 0 = .ok (.iload_n 1, 1) := by decide +kernel
theorem dX11_pending_1 : decode cX11_pending 1 = .ok (.iconst (-1), 1) := by decide +kernel
theorem dX11_pending_2 : decode cX11_pending 2 = .ok (.if_icmp .ne 11, 3) := by decide +kernel
theorem dX11_pending_5 : decode cX11_pending 5 = .ok (.aload_n 0, 1) := by decide +kernel
theorem dX11_pending_6 : decode cX11_pending 6 = .ok (.getfield 12, 3) := by decide +kernel
theorem dX11_pending_9 : decode cX11_pending 9 = .ok (.invokevirtual 95, 3) := by decide +kernel
theorem dX11_pending_12 : decode cX11_pending 12 = .ok (.ireturn, 1) := by decide +kernel
theorem dX11_pending_13 : decode cX11_pending 13 = .ok (.aload_n 0, 1) := by decide +kernel
theorem dX11_pending_14 : decode cX11_pending 14 = .ok (.getfield 12, 3) := by decide +kernel
theorem dX11_pending_17 : decode cX11_pending 17 = .ok (.iload_n 1, 1) := by decide +kernel
theorem dX11_pending_18 : decode cX11_pending 18 = .ok (.invokevirtual 244, 3) := by decide +kernel
theorem dX11_pending_21 : decode cX11_pending 21 = .ok (.astore_n 3, 1) := by decide +kernel
theorem dX11_pending_22 : decode cX11_pending 22 = .ok (.aload_n 3, 1) := by decide +kernel
theorem dX11_pending_23 : decode cX11_pending 23 = .ok (.ifnonnull 5, 3) := by decide +kernel
theorem dX11_pending_26 : decode cX11_pending 26 = .ok (.iconst (-1), 1) := by decide +kernel
theorem dX11_pending_27 : decode cX11_pending 27 = .ok (.ireturn, 1) := by decide +kernel
set_option maxRecDepth 100000 in
theorem q_857 : (.code yX4_motionAt cX4_motionAt 3 (some (.object "AssemblyChair$Motion"))) ∈ lw_all := List.mem_filter.mpr ⟨List.mem_of_getElem? (i := 857) (rfl), by decide +kernel⟩
set_option maxRecDepth 100000 in
theorem q_855 : (.instanceMethod yX4_motionAt) ∈ lw_all := List.mem_filter.mpr ⟨List.mem_of_getElem? (i := 855) (by decide +kernel), by decide +kernel⟩
set_option maxRecDepth 100000 in
theorem q_854 : (.methodLink RX11 244 yX4_motionAt) ∈ lw_all := List.mem_filter.mpr ⟨List.mem_of_getElem? (i := 854) (by decide +kernel), by decide +kernel⟩
set_option maxRecDepth 100000 in
theorem q_678 : (.methodLink RX11 95 yX4_height) ∈ lw_all := List.mem_filter.mpr ⟨List.mem_of_getElem? (i := 678) (by decide +kernel), by decide +kernel⟩
set_option maxRecDepth 100000 in
theorem q_856 : (.selects RX4 yX4_motionAt yX4_motionAt) ∈ lw_all := List.mem_filter.mpr ⟨List.mem_of_getElem? (i := 856) (by decide +kernel), by decide +kernel⟩
set_option maxHeartbeats 4000000 in
set_option maxRecDepth 100000 in
theorem c_X11_pending (l : Launch) (D : va_G) (cI cQ cM cR : ClassId) (x0 : Nat) (nme : Nat) (sme : Nat) (xr : Nat) (xs : Nat) (nho : Nat) (ndk : Nat) (nsh : Nat) (nmi : Nat) (nba : Nat) (nde : Nat) (nbu : Nat) (p0 : Int32) (p1 : Int32) : Met l yX11_pending (ws_ yX11_pending cX11_pending 4 (some .int)) ({ frames := 2, cells := 0, slots := 0, locals := 42 }) (PP D cI cQ cM cR [.ref x0, .int p0, .int p1] [(x0, .inr (11, [.ref nme, .ref sme, .int 0, .ref xr, .ref xs])), (nme, .inr (4, [.ref nho, .ref ndk, .ref nsh, .ref nmi, .ref nba, .ref nde, .ref nbu, .int 1, .int 0, .null, .int 0, .int 0, .int 0]))]) (QP (some (.int (sp_m1 p0)))) 0 0 (fun _ => False) := by
  refine Met.ofW (cc := cX11_pending) (maxL := 4) (ret := (some .int)) (by decide) rfl ?_
  intro p e s m args below meth c s₁ B hml hv
  obtain ⟨rfl, hP, hK⟩ := hv
  have hx := B.exec
  have hb := B.bytes
  have hr := B.returns
  have hts : ∀ w ∈ lw_all, w.before _ s = true := fun w h => atoms_spec (ws := (ws_ yX11_pending cX11_pending 4 (some .int))) B.pre w (List.mem_cons_of_mem _ h)
  have hown : s.vm.findClass RX11 = some m.cls := findClass_of_methodNamed B.named
  have hlocks := B.notSynchronized
  have hP : va_P D vwCl [(x0, .inr (11, [.ref nme, .ref sme, .int 0, .ref xr, .ref xs])), (nme, .inr (4, [.ref nho, .ref ndk, .ref nsh, .ref nmi, .ref nba, .ref nde, .ref nbu, .int 1, .int 0, .null, .int 0, .int 0, .int 0]))] s.heap := hP
  have hl := lv_entry ([.ref x0, .int p0, .int p1]) (n := 4) (Nat.le_of_ble_eq_true rfl)
  rw [lg_entry_eq]
  generalize (lg_sl ([.ref x0, .int p0, .int p1]) ++ List.replicate (4 - (lg_sl ([.ref x0, .int p0, .int p1])).length) Slot.unset).toArray = ls at hl ⊢
  have hl : lv_has ls 4 [(0, .ref x0), (1, .int p0), (2, .int p1)] := hl
  refine lv_iload_n hx hb dX11_pending_0 rfl (lv_at hl 1 rfl) ?_
  refine lv_iconst (v := (-1)) hx hb dX11_pending_1 (by decide) ?_
  refine lv_icmp_ne (tgt := 13) hx hb dX11_pending_2 (by decide) (fun c_1 => ?_) (fun c_1 => ?_)
  · refine lv_aload_n hx hb dX11_pending_13 rfl (lv_at hl 0 rfl) ?_
    refine va_get (D := D) (ci := 11) (v := .ref nme) (C := RX11) (T := TX11) (N := 5) hx hb hts in_X11 hown hK hP 0 rfl rfl 0 (by decide) (hts _ q_412) (fun _ h9 => h9) rfl dX11_pending_14 ?_
    refine lv_iload_n hx hb dX11_pending_17 rfl (lv_at hl 1 rfl) ?_
    refine p_call (va_runV (As := [.int p0]) (rest := []) ⟨hx, hb, hml, hown, hts⟩ (c_X4_motionAt l D cI cQ cM cR nme nho ndk nsh nmi nba nde nbu p0) (cwV 1 hts (gV q_854 q_855 q_856 q_66 q_857) rfl rfl rfl (by decide +kernel) ⟨Nat.le_of_ble_eq_true rfl, Nat.le_of_ble_eq_true rfl⟩) ⟨PP_blind, va_recv hK hP (ci := 4) (q0 := 1) rfl rfl, PP_of hK (hP.sub [1] rfl)⟩ rfl rfl hl.1 rfl (lv_room (Nat.le_of_ble_eq_true rfl)) dX11_pending_18 ⟨Nat.le_of_ble_eq_true rfl, Nat.le_of_ble_eq_true rfl⟩) ?_
    refine lv_astore_nN (lv' := [(3, .null), (0, .ref x0), (1, .int p0), (2, .int p1)]) hx hb dX11_pending_21 rfl hl (by decide) rfl (fun ls hl => ?_)
    refine lv_aload_nN hx hb dX11_pending_22 rfl (lv_at hl 0 rfl) ?_
    refine lv_ifnonnullN hx hb dX11_pending_23 ?_
    refine lv_iconst (v := (-1)) hx hb dX11_pending_26 (by decide) ?_
    exact W.iret hx hb hr (fun t ht hW => ⟨by first | rfl | (simp only [sp_m1, c_1, ↓reduceIte, if_true, if_false, not_true_eq_false, not_false_eq_true]; done) | (simp [sp_m1, c_1]; done), ht⟩) (fun q hq => absurd hq List.not_mem_nil) dX11_pending_27
  · refine lv_aload_n hx hb dX11_pending_5 rfl (lv_at hl 0 rfl) ?_
    refine va_get (D := D) (ci := 11) (v := .ref nme) (C := RX11) (T := TX11) (N := 5) hx hb hts in_X11 hown hK hP 0 rfl rfl 0 (by decide) (hts _ q_412) (fun _ h9 => h9) rfl dX11_pending_6 ?_
    refine p_call (va_runV (As := []) (rest := []) ⟨hx, hb, hml, hown, hts⟩ (c_X4_height l D cI cQ cM cR nme nho ndk nsh nmi nba nde nbu) (cwV 0 hts (gV q_678 q_679 q_680 q_66 q_681) rfl rfl rfl (by decide +kernel) ⟨Nat.le_of_ble_eq_true rfl, Nat.le_of_ble_eq_true rfl⟩) ⟨PP_blind, va_recv hK hP (ci := 4) (q0 := 1) rfl rfl, PP_of hK (hP.sub [1] rfl)⟩ rfl rfl hl.1 rfl (lv_room (Nat.le_of_ble_eq_true rfl)) dX11_pending_9 ⟨Nat.le_of_ble_eq_true rfl, Nat.le_of_ble_eq_true rfl⟩) ?_
    exact W.iret hx hb hr (fun t ht hW => ⟨by first | rfl | (simp only [sp_m1, c_1, ↓reduceIte, if_true, if_false, not_true_eq_false, not_false_eq_true]; done) | (simp [sp_m1, c_1]; done), ht⟩) (fun q hq => absurd hq List.not_mem_nil) dX11_pending_12
theorem dX11_text_0 : decode cX11_text 0 = .ok (.aload_n 0, 1) := by decide +kernel
theorem dX11_text_1 : decode cX11_text 1 = .ok (.getfield 12, 3) := by decide +kernel
theorem dX11_text_4 : decode cX11_text 4 = .ok (.getfield 133, 3) := by decide +kernel
theorem dX11_text_7 : decode cX11_text 7 = .ok (.iload_n 1, 1) := by decide +kernel
theorem dX11_text_8 : decode cX11_text 8 = .ok (.invokevirtual 251, 3) := by decide +kernel
theorem dX11_text_11 : decode cX11_text 11 = .ok (.astore_n 3, 1) := by decide +kernel
theorem dX11_text_12 : decode cX11_text 12 = .ok (.aload_n 3, 1) := by decide +kernel
theorem dX11_text_13 : decode cX11_text 13 = .ok (.ifnonnull 7, 3) := by decide +kernel
theorem dX11_text_16 : decode cX11_text 16 = .ok (.iconst (-1), 1) := by decide +kernel
theorem dX11_text_17 : decode cX11_text 17 = .ok (.goto 11, 3) := by decide +kernel
theorem dX11_text_28 : decode cX11_text 28 = .ok (.ireturn, 1) := by decide +kernel
set_option maxRecDepth 100000 in
theorem q_532 : (.code yX2_at cX2_at 2 (some (.object "AssemblyChair$Question"))) ∈ lw_all := List.mem_filter.mpr ⟨List.mem_of_getElem? (i := 532) (rfl), by decide +kernel⟩
set_option maxRecDepth 100000 in
theorem q_340 : (.fieldLink RX11 133 "AssemblyChair$Meeting" "docket" "LAssemblyChair$Docket;") ∈ lw_all := List.mem_filter.mpr ⟨List.mem_of_getElem? (i := 340) (by decide +kernel), by decide +kernel⟩
set_option maxRecDepth 100000 in
theorem q_68 : (.initialized RX2) ∈ lw_all := List.mem_filter.mpr ⟨List.mem_of_getElem? (i := 68) (by decide +kernel), by decide +kernel⟩
set_option maxRecDepth 100000 in
theorem q_530 : (.instanceMethod yX2_at) ∈ lw_all := List.mem_filter.mpr ⟨List.mem_of_getElem? (i := 530) (by decide +kernel), by decide +kernel⟩
set_option maxRecDepth 100000 in
theorem q_863 : (.methodLink RX11 251 yX2_at) ∈ lw_all := List.mem_filter.mpr ⟨List.mem_of_getElem? (i := 863) (by decide +kernel), by decide +kernel⟩
set_option maxRecDepth 100000 in
theorem q_531 : (.selects RX2 yX2_at yX2_at) ∈ lw_all := List.mem_filter.mpr ⟨List.mem_of_getElem? (i := 531) (by decide +kernel), by decide +kernel⟩
set_option maxHeartbeats 4000000 in
set_option maxRecDepth 100000 in
theorem c_X11_text (l : Launch) (D : va_G) (cI cQ cM cR : ClassId) (x0 : Nat) (nme : Nat) (sme : Nat) (xr : Nat) (xs : Nat) (nho : Nat) (ndk : Nat) (nsh : Nat) (nmi : Nat) (nba : Nat) (nde : Nat) (nbu : Nat) (ndq : Nat) (ndr : Nat) (p0 : Int32) (p1 : Int32) : Met l yX11_text (ws_ yX11_text cX11_text 4 (some .int)) ({ frames := 1, cells := 0, slots := 0, locals := 21 }) (PP D cI cQ cM cR [.ref x0, .int p0, .int p1] [(x0, .inr (11, [.ref nme, .ref sme, .int 0, .ref xr, .ref xs])), (nme, .inr (4, [.ref nho, .ref ndk, .ref nsh, .ref nmi, .ref nba, .ref nde, .ref nbu, .int 1, .int 0, .null, .int 0, .int 0, .int 0])), (ndk, .inr (2, [.int 0, .int 0, .ref ndq, .ref ndr]))]) (QP (some (.int (-1)))) 0 0 (fun _ => False) := by
  refine Met.ofW (cc := cX11_text) (maxL := 4) (ret := (some .int)) (by decide) rfl ?_
  intro p e s m args below meth c s₁ B hml hv
  obtain ⟨rfl, hP, hK⟩ := hv
  have hx := B.exec
  have hb := B.bytes
  have hr := B.returns
  have hts : ∀ w ∈ lw_all, w.before _ s = true := fun w h => atoms_spec (ws := (ws_ yX11_text cX11_text 4 (some .int))) B.pre w (List.mem_cons_of_mem _ h)
  have hown : s.vm.findClass RX11 = some m.cls := findClass_of_methodNamed B.named
  have hlocks := B.notSynchronized
  have hP : va_P D vwCl [(x0, .inr (11, [.ref nme, .ref sme, .int 0, .ref xr, .ref xs])), (nme, .inr (4, [.ref nho, .ref ndk, .ref nsh, .ref nmi, .ref nba, .ref nde, .ref nbu, .int 1, .int 0, .null, .int 0, .int 0, .int 0])), (ndk, .inr (2, [.int 0, .int 0, .ref ndq, .ref ndr]))] s.heap := hP
  have hl := lv_entry ([.ref x0, .int p0, .int p1]) (n := 4) (Nat.le_of_ble_eq_true rfl)
  rw [lg_entry_eq]
  generalize (lg_sl ([.ref x0, .int p0, .int p1]) ++ List.replicate (4 - (lg_sl ([.ref x0, .int p0, .int p1])).length) Slot.unset).toArray = ls at hl ⊢
  have hl : lv_has ls 4 [(0, .ref x0), (1, .int p0), (2, .int p1)] := hl
  refine lv_aload_n hx hb dX11_text_0 rfl (lv_at hl 0 rfl) ?_
  refine va_get (D := D) (ci := 11) (v := .ref nme) (C := RX11) (T := TX11) (N := 5) hx hb hts in_X11 hown hK hP 0 rfl rfl 0 (by decide) (hts _ q_412) (fun _ h9 => h9) rfl dX11_text_1 ?_
  refine va_get (D := D) (ci := 4) (v := .ref ndk) (C := RX4) (T := TX4) (N := 13) hx hb hts in_X4 hown hK hP 1 rfl rfl 1 (by decide) (hts _ q_340) (fun _ h9 => h9) rfl dX11_text_4 ?_
  refine lv_iload_n hx hb dX11_text_7 rfl (lv_at hl 1 rfl) ?_
  refine p_call (va_runV (As := [.int p0]) (rest := []) ⟨hx, hb, hml, hown, hts⟩ (c_X2_at l D cI cQ cM cR ndk ndq ndr p0) (cwV 1 hts (gV q_863 q_530 q_531 q_68 q_532) rfl rfl rfl (by decide +kernel) ⟨Nat.le_of_ble_eq_true rfl, Nat.le_of_ble_eq_true rfl⟩) ⟨PP_blind, va_recv hK hP (ci := 2) (q0 := 2) rfl rfl, PP_of hK (hP.sub [2] rfl)⟩ rfl rfl hl.1 rfl (lv_room (Nat.le_of_ble_eq_true rfl)) dX11_text_8 ⟨Nat.le_of_ble_eq_true rfl, Nat.le_of_ble_eq_true rfl⟩) ?_
  refine lv_astore_nN (lv' := [(3, .null), (0, .ref x0), (1, .int p0), (2, .int p1)]) hx hb dX11_text_11 rfl hl (by decide) rfl (fun ls hl => ?_)
  refine lv_aload_nN hx hb dX11_text_12 rfl (lv_at hl 0 rfl) ?_
  refine lv_ifnonnullN hx hb dX11_text_13 ?_
  refine lv_iconst (v := (-1)) hx hb dX11_text_16 (by decide) ?_
  refine lv_goto (tgt := 28) hx hb dX11_text_17 (by decide) ?_
  exact W.iret hx hb hr (fun t ht hW => ⟨rfl, ht⟩) (fun q hq => absurd hq List.not_mem_nil) dX11_text_28
theorem dX11_question_0 : decode cX11_question 0 = .ok (.aload_n 0, 1) := by decide +kernel
theorem dX11_question_1 : decode cX11_question 1 = .ok (.getfield 12, 3) := by decide +kernel
theorem dX11_question_4 : decode cX11_question 4 = .ok (.getfield 133, 3) := by decide +kernel
theorem dX11_question_7 : decode cX11_question 7 = .ok (.iload_n 1, 1) := by decide +kernel
theorem dX11_question_8 : decode cX11_question 8 = .ok (.invokevirtual 251, 3) := by decide +kernel
theorem dX11_question_11 : decode cX11_question 11 = .ok (.astore_n 3, 1) := by decide +kernel
theorem dX11_question_12 : decode cX11_question 12 = .ok (.aload_n 3, 1) := by decide +kernel
theorem dX11_question_13 : decode cX11_question 13 = .ok (.ifnonnull 5, 3) := by decide +kernel
theorem dX11_question_16 : decode cX11_question 16 = .ok (.iconst (-1), 1) := by decide +kernel
theorem dX11_question_17 : decode cX11_question 17 = .ok (.ireturn, 1) := by decide +kernel
set_option maxHeartbeats 4000000 in
set_option maxRecDepth 100000 in
theorem c_X11_question (l : Launch) (D : va_G) (cI cQ cM cR : ClassId) (x0 : Nat) (nme : Nat) (sme : Nat) (xr : Nat) (xs : Nat) (nho : Nat) (ndk : Nat) (nsh : Nat) (nmi : Nat) (nba : Nat) (nde : Nat) (nbu : Nat) (ndq : Nat) (ndr : Nat) (p0 : Int32) (p1 : Int32) : Met l yX11_question (ws_ yX11_question cX11_question 4 (some .int)) ({ frames := 1, cells := 0, slots := 0, locals := 21 }) (PP D cI cQ cM cR [.ref x0, .int p0, .int p1] [(x0, .inr (11, [.ref nme, .ref sme, .int 0, .ref xr, .ref xs])), (nme, .inr (4, [.ref nho, .ref ndk, .ref nsh, .ref nmi, .ref nba, .ref nde, .ref nbu, .int 1, .int 0, .null, .int 0, .int 0, .int 0])), (ndk, .inr (2, [.int 0, .int 0, .ref ndq, .ref ndr]))]) (QP (some (.int (-1)))) 0 0 (fun _ => False) := by
  refine Met.ofW (cc := cX11_question) (maxL := 4) (ret := (some .int)) (by decide) rfl ?_
  intro p e s m args below meth c s₁ B hml hv
  obtain ⟨rfl, hP, hK⟩ := hv
  have hx := B.exec
  have hb := B.bytes
  have hr := B.returns
  have hts : ∀ w ∈ lw_all, w.before _ s = true := fun w h => atoms_spec (ws := (ws_ yX11_question cX11_question 4 (some .int))) B.pre w (List.mem_cons_of_mem _ h)
  have hown : s.vm.findClass RX11 = some m.cls := findClass_of_methodNamed B.named
  have hlocks := B.notSynchronized
  have hP : va_P D vwCl [(x0, .inr (11, [.ref nme, .ref sme, .int 0, .ref xr, .ref xs])), (nme, .inr (4, [.ref nho, .ref ndk, .ref nsh, .ref nmi, .ref nba, .ref nde, .ref nbu, .int 1, .int 0, .null, .int 0, .int 0, .int 0])), (ndk, .inr (2, [.int 0, .int 0, .ref ndq, .ref ndr]))] s.heap := hP
  have hl := lv_entry ([.ref x0, .int p0, .int p1]) (n := 4) (Nat.le_of_ble_eq_true rfl)
  rw [lg_entry_eq]
  generalize (lg_sl ([.ref x0, .int p0, .int p1]) ++ List.replicate (4 - (lg_sl ([.ref x0, .int p0, .int p1])).length) Slot.unset).toArray = ls at hl ⊢
  have hl : lv_has ls 4 [(0, .ref x0), (1, .int p0), (2, .int p1)] := hl
  refine lv_aload_n hx hb dX11_question_0 rfl (lv_at hl 0 rfl) ?_
  refine va_get (D := D) (ci := 11) (v := .ref nme) (C := RX11) (T := TX11) (N := 5) hx hb hts in_X11 hown hK hP 0 rfl rfl 0 (by decide) (hts _ q_412) (fun _ h9 => h9) rfl dX11_question_1 ?_
  refine va_get (D := D) (ci := 4) (v := .ref ndk) (C := RX4) (T := TX4) (N := 13) hx hb hts in_X4 hown hK hP 1 rfl rfl 1 (by decide) (hts _ q_340) (fun _ h9 => h9) rfl dX11_question_4 ?_
  refine lv_iload_n hx hb dX11_question_7 rfl (lv_at hl 1 rfl) ?_
  refine p_call (va_runV (As := [.int p0]) (rest := []) ⟨hx, hb, hml, hown, hts⟩ (c_X2_at l D cI cQ cM cR ndk ndq ndr p0) (cwV 1 hts (gV q_863 q_530 q_531 q_68 q_532) rfl rfl rfl (by decide +kernel) ⟨Nat.le_of_ble_eq_true rfl, Nat.le_of_ble_eq_true rfl⟩) ⟨PP_blind, va_recv hK hP (ci := 2) (q0 := 2) rfl rfl, PP_of hK (hP.sub [2] rfl)⟩ rfl rfl hl.1 rfl (lv_room (Nat.le_of_ble_eq_true rfl)) dX11_question_8 ⟨Nat.le_of_ble_eq_true rfl, Nat.le_of_ble_eq_true rfl⟩) ?_
  refine lv_astore_nN (lv' := [(3, .null), (0, .ref x0), (1, .int p0), (2, .int p1)]) hx hb dX11_question_11 rfl hl (by decide) rfl (fun ls hl => ?_)
  refine lv_aload_nN hx hb dX11_question_12 rfl (lv_at hl 0 rfl) ?_
  refine lv_ifnonnullN hx hb dX11_question_13 ?_
  refine lv_iconst (v := (-1)) hx hb dX11_question_16 (by decide) ?_
  exact W.iret hx hb hr (fun t ht hW => ⟨rfl, ht⟩) (fun q hq => absurd hq List.not_mem_nil) dX11_question_17
theorem dX11_draft_0 : decode cX11_draft 0 = .ok (.aload_n 0, 1) := by decide +kernel
theorem dX11_draft_1 : decode cX11_draft 1 = .ok (.getfield 12, 3) := by decide +kernel
theorem dX11_draft_4 : decode cX11_draft 4 = .ok (.invokevirtual 124, 3) := by decide +kernel
theorem dX11_draft_7 : decode cX11_draft 7 = .ok (.astore_n 2, 1) := by decide +kernel
theorem dX11_draft_8 : decode cX11_draft 8 = .ok (.aload_n 2, 1) := by decide +kernel
theorem dX11_draft_9 : decode cX11_draft 9 = .ok (.ifnonnull 6, 3) := by decide +kernel
theorem dX11_draft_12 : decode cX11_draft 12 = .ok (.bipush (-3), 2) := by decide +kernel
theorem dX11_draft_14 : decode cX11_draft 14 = .ok (.ireturn, 1) := by decide +kernel
set_option maxHeartbeats 4000000 in
set_option maxRecDepth 100000 in
theorem c_X11_draft (l : Launch) (D : va_G) (cI cQ cM cR : ClassId) (x0 : Nat) (nme : Nat) (sme : Nat) (xr : Nat) (xs : Nat) (nho : Nat) (ndk : Nat) (nsh : Nat) (nmi : Nat) (nba : Nat) (nde : Nat) (nbu : Nat) (p0 : Int32) : Met l yX11_draft (ws_ yX11_draft cX11_draft 4 (some .int)) ({ frames := 1, cells := 0, slots := 0, locals := 20 }) (PP D cI cQ cM cR [.ref x0, .int p0] [(x0, .inr (11, [.ref nme, .ref sme, .int 0, .ref xr, .ref xs])), (nme, .inr (4, [.ref nho, .ref ndk, .ref nsh, .ref nmi, .ref nba, .ref nde, .ref nbu, .int 1, .int 0, .null, .int 0, .int 0, .int 0]))]) (QP (some (.int (-3)))) 0 0 (fun _ => False) := by
  refine Met.ofW (cc := cX11_draft) (maxL := 4) (ret := (some .int)) (by decide) rfl ?_
  intro p e s m args below meth c s₁ B hml hv
  obtain ⟨rfl, hP, hK⟩ := hv
  have hx := B.exec
  have hb := B.bytes
  have hr := B.returns
  have hts : ∀ w ∈ lw_all, w.before _ s = true := fun w h => atoms_spec (ws := (ws_ yX11_draft cX11_draft 4 (some .int))) B.pre w (List.mem_cons_of_mem _ h)
  have hown : s.vm.findClass RX11 = some m.cls := findClass_of_methodNamed B.named
  have hlocks := B.notSynchronized
  have hP : va_P D vwCl [(x0, .inr (11, [.ref nme, .ref sme, .int 0, .ref xr, .ref xs])), (nme, .inr (4, [.ref nho, .ref ndk, .ref nsh, .ref nmi, .ref nba, .ref nde, .ref nbu, .int 1, .int 0, .null, .int 0, .int 0, .int 0]))] s.heap := hP
  have hl := lv_entry ([.ref x0, .int p0]) (n := 4) (Nat.le_of_ble_eq_true rfl)
  rw [lg_entry_eq]
  generalize (lg_sl ([.ref x0, .int p0]) ++ List.replicate (4 - (lg_sl ([.ref x0, .int p0])).length) Slot.unset).toArray = ls at hl ⊢
  have hl : lv_has ls 4 [(0, .ref x0), (1, .int p0)] := hl
  refine lv_aload_n hx hb dX11_draft_0 rfl (lv_at hl 0 rfl) ?_
  refine va_get (D := D) (ci := 11) (v := .ref nme) (C := RX11) (T := TX11) (N := 5) hx hb hts in_X11 hown hK hP 0 rfl rfl 0 (by decide) (hts _ q_412) (fun _ h9 => h9) rfl dX11_draft_1 ?_
  refine p_call (va_runV (As := []) (rest := []) ⟨hx, hb, hml, hown, hts⟩ (c_X4_pendingQuestion l D cI cQ cM cR nme nho ndk nsh nmi nba nde nbu) (cwV 0 hts (gV q_525 q_526 q_527 q_66 q_528) rfl rfl rfl (by decide +kernel) ⟨Nat.le_of_ble_eq_true rfl, Nat.le_of_ble_eq_true rfl⟩) ⟨PP_blind, va_recv hK hP (ci := 4) (q0 := 1) rfl rfl, PP_of hK (hP.sub [1] rfl)⟩ rfl rfl hl.1 rfl (lv_room (Nat.le_of_ble_eq_true rfl)) dX11_draft_4 ⟨Nat.le_of_ble_eq_true rfl, Nat.le_of_ble_eq_true rfl⟩) ?_
  refine lv_astore_nN (lv' := [(2, .null), (0, .ref x0), (1, .int p0)]) hx hb dX11_draft_7 rfl hl (by decide) rfl (fun ls hl => ?_)
  refine lv_aload_nN hx hb dX11_draft_8 rfl (lv_at hl 0 rfl) ?_
  refine lv_ifnonnullN hx hb dX11_draft_9 ?_
  refine lv_bipush (v := (-3)) hx hb dX11_draft_12 (by decide) ?_
  exact W.iret hx hb hr (fun t ht hW => ⟨rfl, ht⟩) (fun q hq => absurd hq List.not_mem_nil) dX11_draft_14
theorem dX11_resolution_0 : decode cX11_resolution 0 = .ok (.aload_n 0, 1) := by decide +kernel
theorem dX11_resolution_1 : decode cX11_resolution 1 = .ok (.getfield 12, 3) := by decide +kernel
theorem dX11_resolution_4 : decode cX11_resolution 4 = .ok (.getfield 133, 3) := by decide +kernel
theorem dX11_resolution_7 : decode cX11_resolution 7 = .ok (.iload_n 1, 1) := by decide +kernel
theorem dX11_resolution_8 : decode cX11_resolution 8 = .ok (.invokevirtual 295, 3) := by decide +kernel
theorem dX11_resolution_11 : decode cX11_resolution 11 = .ok (.istore_n 3, 1) := by decide +kernel
theorem dX11_resolution_12 : decode cX11_resolution 12 = .ok (.iload_n 2, 1) := by decide +kernel
theorem dX11_resolution_13 : decode cX11_resolution 13 = .ok (.bipush (-2), 2) := by decide +kernel
theorem dX11_resolution_15 : decode cX11_resolution 15 = .ok (.if_icmp .ne 13, 3) := by decide +kernel
theorem dX11_resolution_18 : decode cX11_resolution 18 = .ok (.iload_n 3, 1) := by decide +kernel
theorem dX11_resolution_19 : decode cX11_resolution 19 = .ok (.bipush 99, 2) := by decide +kernel
theorem dX11_resolution_21 : decode cX11_resolution 21 = .ok (.if_icmp .eq 7, 3) := by decide +kernel
theorem dX11_resolution_28 : decode cX11_resolution 28 = .ok (.aload_n 0, 1) := by decide +kernel
theorem dX11_resolution_29 : decode cX11_resolution 29 = .ok (.iload_n 3, 1) := by decide +kernel
theorem dX11_resolution_30 : decode cX11_resolution 30 = .ok (.iload_n 2, 1) := by decide +kernel
theorem dX11_resolution_31 : decode cX11_resolution 31 = .ok (.invokevirtual 298, 3) := by decide +kernel
theorem dX11_resolution_34 : decode cX11_resolution 34 = .ok (.ireturn, 1) := by decide +kernel
set_option maxRecDepth 100000 in
theorem q_894 : (.code yX2_questionOf cX2_questionOf 2 (some .int)) ∈ lw_all := List.mem_filter.mpr ⟨List.mem_of_getElem? (i := 894) (rfl), by decide +kernel⟩
set_option maxRecDepth 100000 in
theorem q_862 : (.code yX11_text cX11_text 4 (some .int)) ∈ lw_all := List.mem_filter.mpr ⟨List.mem_of_getElem? (i := 862) (rfl), by decide +kernel⟩
set_option maxRecDepth 100000 in
theorem q_892 : (.instanceMethod yX2_questionOf) ∈ lw_all := List.mem_filter.mpr ⟨List.mem_of_getElem? (i := 892) (by decide +kernel), by decide +kernel⟩
set_option maxRecDepth 100000 in
theorem q_860 : (.instanceMethod yX11_text) ∈ lw_all := List.mem_filter.mpr ⟨List.mem_of_getElem? (i := 860) (by decide +kernel), by decide +kernel⟩
set_option maxRecDepth 100000 in
theorem q_891 : (.methodLink RX11 295 yX2_questionOf) ∈ lw_all := List.mem_filter.mpr ⟨List.mem_of_getElem? (i := 891) (by decide +kernel), by decide +kernel⟩
set_option maxRecDepth 100000 in
theorem q_895 : (.methodLink RX11 298 yX11_text) ∈ lw_all := List.mem_filter.mpr ⟨List.mem_of_getElem? (i := 895) (by decide +kernel), by decide +kernel⟩
set_option maxRecDepth 100000 in
theorem q_861 : (.selects RX11 yX11_text yX11_text) ∈ lw_all := List.mem_filter.mpr ⟨List.mem_of_getElem? (i := 861) (by decide +kernel), by decide +kernel⟩
set_option maxRecDepth 100000 in
theorem q_893 : (.selects RX2 yX2_questionOf yX2_questionOf) ∈ lw_all := List.mem_filter.mpr ⟨List.mem_of_getElem? (i := 893) (by decide +kernel), by decide +kernel⟩
set_option maxHeartbeats 4000000 in
set_option maxRecDepth 100000 in
theorem c_X11_resolution (l : Launch) (D : va_G) (cI cQ cM cR : ClassId) (x0 : Nat) (nme : Nat) (sme : Nat) (xr : Nat) (xs : Nat) (nho : Nat) (ndk : Nat) (nsh : Nat) (nmi : Nat) (nba : Nat) (nde : Nat) (nbu : Nat) (ndq : Nat) (ndr : Nat) (p0 : Int32) (p1 : Int32) : Met l yX11_resolution (ws_ yX11_resolution cX11_resolution 4 (some .int)) ({ frames := 2, cells := 0, slots := 0, locals := 44 }) (PP D cI cQ cM cR [.ref x0, .int p0, .int p1] [(x0, .inr (11, [.ref nme, .ref sme, .int 0, .ref xr, .ref xs])), (nme, .inr (4, [.ref nho, .ref ndk, .ref nsh, .ref nmi, .ref nba, .ref nde, .ref nbu, .int 1, .int 0, .null, .int 0, .int 0, .int 0])), (ndk, .inr (2, [.int 0, .int 0, .ref ndq, .ref ndr]))]) (QP (some (.int (-1)))) 0 0 (fun _ => False) := by
  refine Met.ofW (cc := cX11_resolution) (maxL := 4) (ret := (some .int)) (by decide) rfl ?_
  intro p e s m args below meth c s₁ B hml hv
  obtain ⟨rfl, hP, hK⟩ := hv
  have hx := B.exec
  have hb := B.bytes
  have hr := B.returns
  have hts : ∀ w ∈ lw_all, w.before _ s = true := fun w h => atoms_spec (ws := (ws_ yX11_resolution cX11_resolution 4 (some .int))) B.pre w (List.mem_cons_of_mem _ h)
  have hown : s.vm.findClass RX11 = some m.cls := findClass_of_methodNamed B.named
  have hlocks := B.notSynchronized
  have hP : va_P D vwCl [(x0, .inr (11, [.ref nme, .ref sme, .int 0, .ref xr, .ref xs])), (nme, .inr (4, [.ref nho, .ref ndk, .ref nsh, .ref nmi, .ref nba, .ref nde, .ref nbu, .int 1, .int 0, .null, .int 0, .int 0, .int 0])), (ndk, .inr (2, [.int 0, .int 0, .ref ndq, .ref ndr]))] s.heap := hP
  have hl := lv_entry ([.ref x0, .int p0, .int p1]) (n := 4) (Nat.le_of_ble_eq_true rfl)
  rw [lg_entry_eq]
  generalize (lg_sl ([.ref x0, .int p0, .int p1]) ++ List.replicate (4 - (lg_sl ([.ref x0, .int p0, .int p1])).length) Slot.unset).toArray = ls at hl ⊢
  have hl : lv_has ls 4 [(0, .ref x0), (1, .int p0), (2, .int p1)] := hl
  refine lv_aload_n hx hb dX11_resolution_0 rfl (lv_at hl 0 rfl) ?_
  refine va_get (D := D) (ci := 11) (v := .ref nme) (C := RX11) (T := TX11) (N := 5) hx hb hts in_X11 hown hK hP 0 rfl rfl 0 (by decide) (hts _ q_412) (fun _ h9 => h9) rfl dX11_resolution_1 ?_
  refine va_get (D := D) (ci := 4) (v := .ref ndk) (C := RX4) (T := TX4) (N := 13) hx hb hts in_X4 hown hK hP 1 rfl rfl 1 (by decide) (hts _ q_340) (fun _ h9 => h9) rfl dX11_resolution_4 ?_
  refine lv_iload_n hx hb dX11_resolution_7 rfl (lv_at hl 1 rfl) ?_
  refine p_call (va_runV (As := [.int p0]) (rest := []) ⟨hx, hb, hml, hown, hts⟩ (c_X2_questionOf l D cI cQ cM cR ndk ndq ndr p0) (cwV 1 hts (gV q_891 q_892 q_893 q_68 q_894) rfl rfl rfl (by decide +kernel) ⟨Nat.le_of_ble_eq_true rfl, Nat.le_of_ble_eq_true rfl⟩) ⟨PP_blind, va_recv hK hP (ci := 2) (q0 := 2) rfl rfl, PP_of hK (hP.sub [2] rfl)⟩ rfl rfl hl.1 rfl (lv_room (Nat.le_of_ble_eq_true rfl)) dX11_resolution_8 ⟨Nat.le_of_ble_eq_true rfl, Nat.le_of_ble_eq_true rfl⟩) ?_
  refine lv_istore_n (lv' := [(3, .int 99), (0, .ref x0), (1, .int p0), (2, .int p1)]) hx hb dX11_resolution_11 rfl hl (by decide) rfl (fun ls hl => ?_)
  refine lv_iload_n hx hb dX11_resolution_12 rfl (lv_at hl 3 rfl) ?_
  refine lv_bipush (v := (-2)) hx hb dX11_resolution_13 (by decide) ?_
  refine lv_icmp_ne (tgt := 28) hx hb dX11_resolution_15 (by decide) (fun c_1 => ?_) (fun c_1 => ?_)
  · refine lv_aload_n hx hb dX11_resolution_28 rfl (lv_at hl 1 rfl) ?_
    refine lv_iload_n hx hb dX11_resolution_29 rfl (lv_at hl 0 rfl) ?_
    refine lv_iload_n hx hb dX11_resolution_30 rfl (lv_at hl 3 rfl) ?_
    refine p_call (va_runV (As := [.int 99, .int p1]) (rest := []) ⟨hx, hb, hml, hown, hts⟩ (c_X11_text l D cI cQ cM cR x0 nme sme xr xs nho ndk nsh nmi nba nde nbu ndq ndr 99 p1) (cwV 2 hts (gV q_895 q_860 q_861 q_65 q_862) rfl rfl rfl (by decide +kernel) ⟨Nat.le_of_ble_eq_true rfl, Nat.le_of_ble_eq_true rfl⟩) ⟨PP_blind, va_recv hK hP (ci := 11) (q0 := 0) rfl rfl, PP_of hK (hP.sub [0, 1, 2] rfl)⟩ rfl rfl hl.1 rfl (lv_room (Nat.le_of_ble_eq_true rfl)) dX11_resolution_31 ⟨Nat.le_of_ble_eq_true rfl, Nat.le_of_ble_eq_true rfl⟩) ?_
    exact W.iret hx hb hr (fun t ht hW => ⟨rfl, ht⟩) (fun q hq => absurd hq List.not_mem_nil) dX11_resolution_34
  · refine lv_iload_n hx hb dX11_resolution_18 rfl (lv_at hl 0 rfl) ?_
    refine lv_bipush (v := 99) hx hb dX11_resolution_19 (by decide) ?_
    refine lv_icmp_eq (tgt := 28) hx hb dX11_resolution_21 (by decide) (fun _ => ?_) (fun c9 => absurd (by decide) c9)
    refine lv_aload_n hx hb dX11_resolution_28 rfl (lv_at hl 1 rfl) ?_
    refine lv_iload_n hx hb dX11_resolution_29 rfl (lv_at hl 0 rfl) ?_
    refine lv_iload_n hx hb dX11_resolution_30 rfl (lv_at hl 3 rfl) ?_
    refine p_call (va_runV (As := [.int 99, .int p1]) (rest := []) ⟨hx, hb, hml, hown, hts⟩ (c_X11_text l D cI cQ cM cR x0 nme sme xr xs nho ndk nsh nmi nba nde nbu ndq ndr 99 p1) (cwV 2 hts (gV q_895 q_860 q_861 q_65 q_862) rfl rfl rfl (by decide +kernel) ⟨Nat.le_of_ble_eq_true rfl, Nat.le_of_ble_eq_true rfl⟩) ⟨PP_blind, va_recv hK hP (ci := 11) (q0 := 0) rfl rfl, PP_of hK (hP.sub [0, 1, 2] rfl)⟩ rfl rfl hl.1 rfl (lv_room (Nat.le_of_ble_eq_true rfl)) dX11_resolution_31 ⟨Nat.le_of_ble_eq_true rfl, Nat.le_of_ble_eq_true rfl⟩) ?_
    exact W.iret hx hb hr (fun t ht hW => ⟨rfl, ht⟩) (fun q hq => absurd hq List.not_mem_nil) dX11_resolution_34
theorem dX11_replayed_0 : decode cX11_replayed 0 = .ok (.aload_n 0, 1) := by decide +kernel
theorem dX11_replayed_1 : decode cX11_replayed 1 = .ok (.getfield 12, 3) := by decide +kernel
theorem dX11_replayed_4 : decode cX11_replayed 4 = .ok (.getfield 133, 3) := by decide +kernel
theorem dX11_replayed_7 : decode cX11_replayed 7 = .ok (.iload_n 1, 1) := by decide +kernel
theorem dX11_replayed_8 : decode cX11_replayed 8 = .ok (.invokevirtual 295, 3) := by decide +kernel
theorem dX11_replayed_11 : decode cX11_replayed 11 = .ok (.istore_n 2, 1) := by decide +kernel
theorem dX11_replayed_12 : decode cX11_replayed 12 = .ok (.aload_n 0, 1) := by decide +kernel
theorem dX11_replayed_13 : decode cX11_replayed 13 = .ok (.getfield 12, 3) := by decide +kernel
theorem dX11_replayed_16 : decode cX11_replayed 16 = .ok (.getfield 133, 3) := by decide +kernel
theorem dX11_replayed_19 : decode cX11_replayed 19 = .ok (.iload_n 2, 1) := by decide +kernel
theorem dX11_replayed_20 : decode cX11_replayed 20 = .ok (.invokevirtual 251, 3) := by decide +kernel
theorem dX11_replayed_23 : decode cX11_replayed 23 = .ok (.astore_n 3, 1) := by decide +kernel
theorem dX11_replayed_24 : decode cX11_replayed 24 = .ok (.aload_n 3, 1) := by decide +kernel
theorem dX11_replayed_25 : decode cX11_replayed 25 = .ok (.ifnonnull 5, 3) := by decide +kernel
theorem dX11_replayed_28 : decode cX11_replayed 28 = .ok (.iconst (-1), 1) := by decide +kernel
theorem dX11_replayed_29 : decode cX11_replayed 29 = .ok (.ireturn, 1) := by decide +kernel
set_option maxHeartbeats 4000000 in
set_option maxRecDepth 100000 in
theorem c_X11_replayed (l : Launch) (D : va_G) (cI cQ cM cR : ClassId) (x0 : Nat) (nme : Nat) (sme : Nat) (xr : Nat) (xs : Nat) (nho : Nat) (ndk : Nat) (nsh : Nat) (nmi : Nat) (nba : Nat) (nde : Nat) (nbu : Nat) (ndq : Nat) (ndr : Nat) (p0 : Int32) : Met l yX11_replayed (ws_ yX11_replayed cX11_replayed 4 (some .int)) ({ frames := 1, cells := 0, slots := 0, locals := 21 }) (PP D cI cQ cM cR [.ref x0, .int p0] [(x0, .inr (11, [.ref nme, .ref sme, .int 0, .ref xr, .ref xs])), (nme, .inr (4, [.ref nho, .ref ndk, .ref nsh, .ref nmi, .ref nba, .ref nde, .ref nbu, .int 1, .int 0, .null, .int 0, .int 0, .int 0])), (ndk, .inr (2, [.int 0, .int 0, .ref ndq, .ref ndr]))]) (QP (some (.int (-1)))) 0 0 (fun _ => False) := by
  refine Met.ofW (cc := cX11_replayed) (maxL := 4) (ret := (some .int)) (by decide) rfl ?_
  intro p e s m args below meth c s₁ B hml hv
  obtain ⟨rfl, hP, hK⟩ := hv
  have hx := B.exec
  have hb := B.bytes
  have hr := B.returns
  have hts : ∀ w ∈ lw_all, w.before _ s = true := fun w h => atoms_spec (ws := (ws_ yX11_replayed cX11_replayed 4 (some .int))) B.pre w (List.mem_cons_of_mem _ h)
  have hown : s.vm.findClass RX11 = some m.cls := findClass_of_methodNamed B.named
  have hlocks := B.notSynchronized
  have hP : va_P D vwCl [(x0, .inr (11, [.ref nme, .ref sme, .int 0, .ref xr, .ref xs])), (nme, .inr (4, [.ref nho, .ref ndk, .ref nsh, .ref nmi, .ref nba, .ref nde, .ref nbu, .int 1, .int 0, .null, .int 0, .int 0, .int 0])), (ndk, .inr (2, [.int 0, .int 0, .ref ndq, .ref ndr]))] s.heap := hP
  have hl := lv_entry ([.ref x0, .int p0]) (n := 4) (Nat.le_of_ble_eq_true rfl)
  rw [lg_entry_eq]
  generalize (lg_sl ([.ref x0, .int p0]) ++ List.replicate (4 - (lg_sl ([.ref x0, .int p0])).length) Slot.unset).toArray = ls at hl ⊢
  have hl : lv_has ls 4 [(0, .ref x0), (1, .int p0)] := hl
  refine lv_aload_n hx hb dX11_replayed_0 rfl (lv_at hl 0 rfl) ?_
  refine va_get (D := D) (ci := 11) (v := .ref nme) (C := RX11) (T := TX11) (N := 5) hx hb hts in_X11 hown hK hP 0 rfl rfl 0 (by decide) (hts _ q_412) (fun _ h9 => h9) rfl dX11_replayed_1 ?_
  refine va_get (D := D) (ci := 4) (v := .ref ndk) (C := RX4) (T := TX4) (N := 13) hx hb hts in_X4 hown hK hP 1 rfl rfl 1 (by decide) (hts _ q_340) (fun _ h9 => h9) rfl dX11_replayed_4 ?_
  refine lv_iload_n hx hb dX11_replayed_7 rfl (lv_at hl 1 rfl) ?_
  refine p_call (va_runV (As := [.int p0]) (rest := []) ⟨hx, hb, hml, hown, hts⟩ (c_X2_questionOf l D cI cQ cM cR ndk ndq ndr p0) (cwV 1 hts (gV q_891 q_892 q_893 q_68 q_894) rfl rfl rfl (by decide +kernel) ⟨Nat.le_of_ble_eq_true rfl, Nat.le_of_ble_eq_true rfl⟩) ⟨PP_blind, va_recv hK hP (ci := 2) (q0 := 2) rfl rfl, PP_of hK (hP.sub [2] rfl)⟩ rfl rfl hl.1 rfl (lv_room (Nat.le_of_ble_eq_true rfl)) dX11_replayed_8 ⟨Nat.le_of_ble_eq_true rfl, Nat.le_of_ble_eq_true rfl⟩) ?_
  refine lv_istore_n (lv' := [(2, .int 99), (0, .ref x0), (1, .int p0)]) hx hb dX11_replayed_11 rfl hl (by decide) rfl (fun ls hl => ?_)
  refine lv_aload_n hx hb dX11_replayed_12 rfl (lv_at hl 1 rfl) ?_
  refine va_get (D := D) (ci := 11) (v := .ref nme) (C := RX11) (T := TX11) (N := 5) hx hb hts in_X11 hown hK hP 0 rfl rfl 0 (by decide) (hts _ q_412) (fun _ h9 => h9) rfl dX11_replayed_13 ?_
  refine va_get (D := D) (ci := 4) (v := .ref ndk) (C := RX4) (T := TX4) (N := 13) hx hb hts in_X4 hown hK hP 1 rfl rfl 1 (by decide) (hts _ q_340) (fun _ h9 => h9) rfl dX11_replayed_16 ?_
  refine lv_iload_n hx hb dX11_replayed_19 rfl (lv_at hl 0 rfl) ?_
  refine p_call (va_runV (As := [.int 99]) (rest := []) ⟨hx, hb, hml, hown, hts⟩ (c_X2_at l D cI cQ cM cR ndk ndq ndr 99) (cwV 1 hts (gV q_863 q_530 q_531 q_68 q_532) rfl rfl rfl (by decide +kernel) ⟨Nat.le_of_ble_eq_true rfl, Nat.le_of_ble_eq_true rfl⟩) ⟨PP_blind, va_recv hK hP (ci := 2) (q0 := 2) rfl rfl, PP_of hK (hP.sub [2] rfl)⟩ rfl rfl hl.1 rfl (lv_room (Nat.le_of_ble_eq_true rfl)) dX11_replayed_20 ⟨Nat.le_of_ble_eq_true rfl, Nat.le_of_ble_eq_true rfl⟩) ?_
  refine lv_astore_nN (lv' := [(3, .null), (2, .int 99), (0, .ref x0), (1, .int p0)]) hx hb dX11_replayed_23 rfl hl (by decide) rfl (fun ls hl => ?_)
  refine lv_aload_nN hx hb dX11_replayed_24 rfl (lv_at hl 0 rfl) ?_
  refine lv_ifnonnullN hx hb dX11_replayed_25 ?_
  refine lv_iconst (v := (-1)) hx hb dX11_replayed_28 (by decide) ?_
  exact W.iret hx hb hr (fun t ht hW => ⟨rfl, ht⟩) (fun q hq => absurd hq List.not_mem_nil) dX11_replayed_29
theorem dX11_entry_0 : decode cX11_entry 0 = .ok (.iload_n 1, 1) := by decide +kernel
theorem dX11_entry_1 : decode cX11_entry 1 = .ok (.iconst (-1), 1) := by decide +kernel
theorem dX11_entry_2 : decode cX11_entry 2 = .ok (.if_icmp .ne 14, 3) := by decide +kernel
theorem dX11_entry_5 : decode cX11_entry 5 = .ok (.aload_n 0, 1) := by decide +kernel
theorem dX11_entry_6 : decode cX11_entry 6 = .ok (.getfield 12, 3) := by decide +kernel
theorem dX11_entry_9 : decode cX11_entry 9 = .ok (.getfield 300, 3) := by decide +kernel
theorem dX11_entry_12 : decode cX11_entry 12 = .ok (.getfield 304, 3) := by decide +kernel
theorem dX11_entry_15 : decode cX11_entry 15 = .ok (.ireturn, 1) := by decide +kernel
theorem dX11_entry_16 : decode cX11_entry 16 = .ok (.iload_n 1, 1) := by decide +kernel
theorem dX11_entry_17 : decode cX11_entry 17 = .ok (.ifCond .lt 17, 3) := by decide +kernel
theorem dX11_entry_20 : decode cX11_entry 20 = .ok (.iload_n 1, 1) := by decide +kernel
theorem dX11_entry_21 : decode cX11_entry 21 = .ok (.aload_n 0, 1) := by decide +kernel
theorem dX11_entry_22 : decode cX11_entry 22 = .ok (.getfield 12, 3) := by decide +kernel
theorem dX11_entry_25 : decode cX11_entry 25 = .ok (.getfield 300, 3) := by decide +kernel
theorem dX11_entry_28 : decode cX11_entry 28 = .ok (.getfield 320, 3) := by decide +kernel
theorem dX11_entry_31 : decode cX11_entry 31 = .ok (.if_icmp .lt 5, 3) := by decide +kernel
theorem dX11_entry_34 : decode cX11_entry 34 = .ok (.iconst (-1), 1) := by decide +kernel
theorem dX11_entry_35 : decode cX11_entry 35 = .ok (.ireturn, 1) := by decide +kernel
set_option maxRecDepth 100000 in
theorem q_344 : (.fieldLink RX11 300 "AssemblyChair$Meeting" "minutes" "LAssemblyChair$Minutes;") ∈ lw_all := List.mem_filter.mpr ⟨List.mem_of_getElem? (i := 344) (by decide +kernel), by decide +kernel⟩
set_option maxRecDepth 100000 in
theorem q_231 : (.fieldLink RX11 304 "AssemblyChair$Minutes" "total" "I") ∈ lw_all := List.mem_filter.mpr ⟨List.mem_of_getElem? (i := 231) (by decide +kernel), by decide +kernel⟩
set_option maxRecDepth 100000 in
theorem q_233 : (.fieldLink RX11 320 "AssemblyChair$Minutes" "kept" "I") ∈ lw_all := List.mem_filter.mpr ⟨List.mem_of_getElem? (i := 233) (by decide +kernel), by decide +kernel⟩
set_option maxHeartbeats 4000000 in
set_option maxRecDepth 100000 in
theorem c_X11_entry (l : Launch) (D : va_G) (cI cQ cM cR : ClassId) (x0 : Nat) (nme : Nat) (sme : Nat) (xr : Nat) (xs : Nat) (nho : Nat) (ndk : Nat) (nsh : Nat) (nmi : Nat) (nba : Nat) (nde : Nat) (nbu : Nat) (nma : Nat) (nmb : Nat) (nmc : Nat) (nmd : Nat) (nmm : Nat) (p0 : Int32) (p1 : Int32) : Met l yX11_entry (ws_ yX11_entry cX11_entry 3 (some .int)) ({ frames := 0, cells := 0, slots := 0, locals := 0 }) (PP D cI cQ cM cR [.ref x0, .int p0, .int p1] [(x0, .inr (11, [.ref nme, .ref sme, .int 0, .ref xr, .ref xs])), (nme, .inr (4, [.ref nho, .ref ndk, .ref nsh, .ref nmi, .ref nba, .ref nde, .ref nbu, .int 1, .int 0, .null, .int 0, .int 0, .int 0])), (nmi, .inr (5, [.int 0, .int 0, .ref nma, .ref nmb, .ref nmc, .ref nmd, .ref nmm]))]) (QP (some (.int (sp_m1 p0)))) 0 0 (fun _ => False) := by
  refine Met.ofW (cc := cX11_entry) (maxL := 3) (ret := (some .int)) (by decide) rfl ?_
  intro p e s m args below meth c s₁ B hml hv
  obtain ⟨rfl, hP, hK⟩ := hv
  have hx := B.exec
  have hb := B.bytes
  have hr := B.returns
  have hts : ∀ w ∈ lw_all, w.before _ s = true := fun w h => atoms_spec (ws := (ws_ yX11_entry cX11_entry 3 (some .int))) B.pre w (List.mem_cons_of_mem _ h)
  have hown : s.vm.findClass RX11 = some m.cls := findClass_of_methodNamed B.named
  have hlocks := B.notSynchronized
  have hP : va_P D vwCl [(x0, .inr (11, [.ref nme, .ref sme, .int 0, .ref xr, .ref xs])), (nme, .inr (4, [.ref nho, .ref ndk, .ref nsh, .ref nmi, .ref nba, .ref nde, .ref nbu, .int 1, .int 0, .null, .int 0, .int 0, .int 0])), (nmi, .inr (5, [.int 0, .int 0, .ref nma, .ref nmb, .ref nmc, .ref nmd, .ref nmm]))] s.heap := hP
  have hl := lv_entry ([.ref x0, .int p0, .int p1]) (n := 3) (Nat.le_of_ble_eq_true rfl)
  rw [lg_entry_eq]
  generalize (lg_sl ([.ref x0, .int p0, .int p1]) ++ List.replicate (3 - (lg_sl ([.ref x0, .int p0, .int p1])).length) Slot.unset).toArray = ls at hl ⊢
  have hl : lv_has ls 3 [(0, .ref x0), (1, .int p0), (2, .int p1)] := hl
  refine lv_iload_n hx hb dX11_entry_0 rfl (lv_at hl 1 rfl) ?_
  refine lv_iconst (v := (-1)) hx hb dX11_entry_1 (by decide) ?_
  refine lv_icmp_ne (tgt := 16) hx hb dX11_entry_2 (by decide) (fun c_1 => ?_) (fun c_1 => ?_)
  · refine lv_iload_n hx hb dX11_entry_16 rfl (lv_at hl 1 rfl) ?_
    refine lv_if_lt (tgt := 34) hx hb dX11_entry_17 (by decide) (fun c_2 => ?_) (fun c_2 => ?_)
    · refine lv_iconst (v := (-1)) hx hb dX11_entry_34 (by decide) ?_
      exact W.iret hx hb hr (fun t ht hW => ⟨by first | rfl | (simp only [sp_m1, c_1, c_2, ↓reduceIte, if_true, if_false, not_true_eq_false, not_false_eq_true]; done) | (simp [sp_m1, c_1, c_2]; done), ht⟩) (fun q hq => absurd hq List.not_mem_nil) dX11_entry_35
    · refine lv_iload_n hx hb dX11_entry_20 rfl (lv_at hl 1 rfl) ?_
      refine lv_aload_n hx hb dX11_entry_21 rfl (lv_at hl 0 rfl) ?_
      refine va_get (D := D) (ci := 11) (v := .ref nme) (C := RX11) (T := TX11) (N := 5) hx hb hts in_X11 hown hK hP 0 rfl rfl 0 (by decide) (hts _ q_412) (fun _ h9 => h9) rfl dX11_entry_22 ?_
      refine va_get (D := D) (ci := 4) (v := .ref nmi) (C := RX4) (T := TX4) (N := 13) hx hb hts in_X4 hown hK hP 1 rfl rfl 3 (by decide) (hts _ q_344) (fun _ h9 => h9) rfl dX11_entry_25 ?_
      refine va_get (D := D) (ci := 5) (v := .int 0) (C := RX5) (T := TX5) (N := 7) hx hb hts in_X5 hown hK hP 2 rfl rfl 1 (by decide) (hts _ q_233) (fun _ h9 => h9) rfl dX11_entry_28 ?_
      refine lv_icmp_lt (tgt := 36) hx hb dX11_entry_31 (by decide) (fun c9 => absurd c9 (c_2)) (fun _ => ?_)
      refine lv_iconst (v := (-1)) hx hb dX11_entry_34 (by decide) ?_
      exact W.iret hx hb hr (fun t ht hW => ⟨by first | rfl | (simp only [sp_m1, c_1, c_2, ↓reduceIte, if_true, if_false, not_true_eq_false, not_false_eq_true]; done) | (simp [sp_m1, c_1, c_2]; done), ht⟩) (fun q hq => absurd hq List.not_mem_nil) dX11_entry_35
  · refine lv_aload_n hx hb dX11_entry_5 rfl (lv_at hl 0 rfl) ?_
    refine va_get (D := D) (ci := 11) (v := .ref nme) (C := RX11) (T := TX11) (N := 5) hx hb hts in_X11 hown hK hP 0 rfl rfl 0 (by decide) (hts _ q_412) (fun _ h9 => h9) rfl dX11_entry_6 ?_
    refine va_get (D := D) (ci := 4) (v := .ref nmi) (C := RX4) (T := TX4) (N := 13) hx hb hts in_X4 hown hK hP 1 rfl rfl 3 (by decide) (hts _ q_344) (fun _ h9 => h9) rfl dX11_entry_9 ?_
    refine va_get (D := D) (ci := 5) (v := .int 0) (C := RX5) (T := TX5) (N := 7) hx hb hts in_X5 hown hK hP 2 rfl rfl 0 (by decide) (hts _ q_231) (fun _ h9 => h9) rfl dX11_entry_12 ?_
    exact W.iret hx hb hr (fun t ht hW => ⟨by first | rfl | (simp only [sp_m1, c_1, ↓reduceIte, if_true, if_false, not_true_eq_false, not_false_eq_true]; done) | (simp [sp_m1, c_1]; done), ht⟩) (fun q hq => absurd hq List.not_mem_nil) dX11_entry_15
theorem dX11_vote_0 : decode cX11_vote 0 = .ok (.aload_n 0, 1) := by decide +kernel
theorem dX11_vote_1 : decode cX11_vote 1 = .ok (.getfield 12, 3) := by decide +kernel
theorem dX11_vote_4 : decode cX11_vote 4 = .ok (.getfield 216, 3) := by decide +kernel
theorem dX11_vote_7 : decode cX11_vote 7 = .ok (.astore_n 2, 1) := by decide +kernel
theorem dX11_vote_8 : decode cX11_vote 8 = .ok (.aload_n 2, 1) := by decide +kernel
theorem dX11_vote_9 : decode cX11_vote 9 = .ok (.getfield 334, 3) := by decide +kernel
theorem dX11_vote_12 : decode cX11_vote 12 = .ok (.ifCond .ne 6, 3) := by decide +kernel
theorem dX11_vote_15 : decode cX11_vote 15 = .ok (.bipush (-3), 2) := by decide +kernel
theorem dX11_vote_17 : decode cX11_vote 17 = .ok (.ireturn, 1) := by decide +kernel
set_option maxRecDepth 100000 in
theorem q_346 : (.fieldLink RX11 216 "AssemblyChair$Meeting" "ballots" "LAssemblyChair$Ballots;") ∈ lw_all := List.mem_filter.mpr ⟨List.mem_of_getElem? (i := 346) (by decide +kernel), by decide +kernel⟩
set_option maxRecDepth 100000 in
theorem q_265 : (.fieldLink RX11 334 "AssemblyChair$Ballots" "decided" "I") ∈ lw_all := List.mem_filter.mpr ⟨List.mem_of_getElem? (i := 265) (by decide +kernel), by decide +kernel⟩
set_option maxHeartbeats 4000000 in
set_option maxRecDepth 100000 in
theorem c_X11_vote (l : Launch) (D : va_G) (cI cQ cM cR : ClassId) (x0 : Nat) (nme : Nat) (sme : Nat) (xr : Nat) (xs : Nat) (nho : Nat) (ndk : Nat) (nsh : Nat) (nmi : Nat) (nba : Nat) (nde : Nat) (nbu : Nat) (nby : Nat) (nbn : Nat) (p0 : Int32) : Met l yX11_vote (ws_ yX11_vote cX11_vote 3 (some .int)) ({ frames := 0, cells := 0, slots := 0, locals := 0 }) (PP D cI cQ cM cR [.ref x0, .int p0] [(x0, .inr (11, [.ref nme, .ref sme, .int 0, .ref xr, .ref xs])), (nme, .inr (4, [.ref nho, .ref ndk, .ref nsh, .ref nmi, .ref nba, .ref nde, .ref nbu, .int 1, .int 0, .null, .int 0, .int 0, .int 0])), (nba, .inr (0, [.int 0, .int 0, .int 0, .ref nby, .ref nbn, .int 0, .int 0, .int 0, .int 0, .int 0, .int 99, .int 0, .int 0]))]) (QP (some (.int (-3)))) 0 0 (fun _ => False) := by
  refine Met.ofW (cc := cX11_vote) (maxL := 3) (ret := (some .int)) (by decide) rfl ?_
  intro p e s m args below meth c s₁ B hml hv
  obtain ⟨rfl, hP, hK⟩ := hv
  have hx := B.exec
  have hb := B.bytes
  have hr := B.returns
  have hts : ∀ w ∈ lw_all, w.before _ s = true := fun w h => atoms_spec (ws := (ws_ yX11_vote cX11_vote 3 (some .int))) B.pre w (List.mem_cons_of_mem _ h)
  have hown : s.vm.findClass RX11 = some m.cls := findClass_of_methodNamed B.named
  have hlocks := B.notSynchronized
  have hP : va_P D vwCl [(x0, .inr (11, [.ref nme, .ref sme, .int 0, .ref xr, .ref xs])), (nme, .inr (4, [.ref nho, .ref ndk, .ref nsh, .ref nmi, .ref nba, .ref nde, .ref nbu, .int 1, .int 0, .null, .int 0, .int 0, .int 0])), (nba, .inr (0, [.int 0, .int 0, .int 0, .ref nby, .ref nbn, .int 0, .int 0, .int 0, .int 0, .int 0, .int 99, .int 0, .int 0]))] s.heap := hP
  have hl := lv_entry ([.ref x0, .int p0]) (n := 3) (Nat.le_of_ble_eq_true rfl)
  rw [lg_entry_eq]
  generalize (lg_sl ([.ref x0, .int p0]) ++ List.replicate (3 - (lg_sl ([.ref x0, .int p0])).length) Slot.unset).toArray = ls at hl ⊢
  have hl : lv_has ls 3 [(0, .ref x0), (1, .int p0)] := hl
  refine lv_aload_n hx hb dX11_vote_0 rfl (lv_at hl 0 rfl) ?_
  refine va_get (D := D) (ci := 11) (v := .ref nme) (C := RX11) (T := TX11) (N := 5) hx hb hts in_X11 hown hK hP 0 rfl rfl 0 (by decide) (hts _ q_412) (fun _ h9 => h9) rfl dX11_vote_1 ?_
  refine va_get (D := D) (ci := 4) (v := .ref nba) (C := RX4) (T := TX4) (N := 13) hx hb hts in_X4 hown hK hP 1 rfl rfl 4 (by decide) (hts _ q_346) (fun _ h9 => h9) rfl dX11_vote_4 ?_
  refine lv_astore_n (lv' := [(2, .ref nba), (0, .ref x0), (1, .int p0)]) hx hb dX11_vote_7 rfl hl (by decide) rfl (fun ls hl => ?_)
  refine lv_aload_n hx hb dX11_vote_8 rfl (lv_at hl 0 rfl) ?_
  refine va_get (D := D) (ci := 0) (v := .int 0) (C := RX0) (T := TX0) (N := 13) hx hb hts in_X0 hown hK hP 2 rfl rfl 0 (by decide) (hts _ q_265) (fun _ h9 => h9) rfl dX11_vote_9 ?_
  refine lv_if_ne (tgt := 18) hx hb dX11_vote_12 (by decide) (fun c9 => absurd (by decide) c9) (fun _ => ?_)
  refine lv_bipush (v := (-3)) hx hb dX11_vote_15 (by decide) ?_
  exact W.iret hx hb hr (fun t ht hW => ⟨rfl, ht⟩) (fun q hq => absurd hq List.not_mem_nil) dX11_vote_17
theorem dX11_count_0 : decode cX11_count 0 = .ok (.iload_n 1, 1) := by decide +kernel
theorem dX11_count_1 : decode cX11_count 1 = .ok (.tableswitch 368 0 18 #[91, 99, 110, 121, 142, 163, 177, 188, 199, 211, 223, 234, 260, 292, 300, 311, 333, 352, 360], 91) := by decide +kernel
theorem dX11_count_92 : decode cX11_count 92 = .ok (.aload_n 0, 1) := by decide +kernel
theorem dX11_count_93 : decode cX11_count 93 = .ok (.getfield 12, 3) := by decide +kernel
theorem dX11_count_96 : decode cX11_count 96 = .ok (.getfield 80, 3) := by decide +kernel
theorem dX11_count_99 : decode cX11_count 99 = .ok (.ireturn, 1) := by decide +kernel
theorem dX11_count_100 : decode cX11_count 100 = .ok (.aload_n 0, 1) := by decide +kernel
theorem dX11_count_101 : decode cX11_count 101 = .ok (.getfield 12, 3) := by decide +kernel
theorem dX11_count_104 : decode cX11_count 104 = .ok (.getfield 83, 3) := by decide +kernel
theorem dX11_count_107 : decode cX11_count 107 = .ok (.invokestatic 56, 3) := by decide +kernel
theorem dX11_count_110 : decode cX11_count 110 = .ok (.ireturn, 1) := by decide +kernel
theorem dX11_count_111 : decode cX11_count 111 = .ok (.aload_n 0, 1) := by decide +kernel
theorem dX11_count_112 : decode cX11_count 112 = .ok (.getfield 12, 3) := by decide +kernel
theorem dX11_count_115 : decode cX11_count 115 = .ok (.getfield 35, 3) := by decide +kernel
theorem dX11_count_118 : decode cX11_count 118 = .ok (.getfield 39, 3) := by decide +kernel
theorem dX11_count_121 : decode cX11_count 121 = .ok (.ireturn, 1) := by decide +kernel
theorem dX11_count_122 : decode cX11_count 122 = .ok (.aload_n 0, 1) := by decide +kernel
theorem dX11_count_123 : decode cX11_count 123 = .ok (.getfield 12, 3) := by decide +kernel
theorem dX11_count_126 : decode cX11_count 126 = .ok (.getfield 35, 3) := by decide +kernel
theorem dX11_count_129 : decode cX11_count 129 = .ok (.aload_n 0, 1) := by decide +kernel
theorem dX11_count_130 : decode cX11_count 130 = .ok (.getfield 12, 3) := by decide +kernel
theorem dX11_count_133 : decode cX11_count 133 = .ok (.getfield 35, 3) := by decide +kernel
theorem dX11_count_136 : decode cX11_count 136 = .ok (.getfield 355, 3) := by decide +kernel
theorem dX11_count_139 : decode cX11_count 139 = .ok (.invokevirtual 358, 3) := by decide +kernel
theorem dX11_count_142 : decode cX11_count 142 = .ok (.ireturn, 1) := by decide +kernel
theorem dX11_count_143 : decode cX11_count 143 = .ok (.aload_n 0, 1) := by decide +kernel
theorem dX11_count_144 : decode cX11_count 144 = .ok (.getfield 12, 3) := by decide +kernel
theorem dX11_count_147 : decode cX11_count 147 = .ok (.getfield 35, 3) := by decide +kernel
theorem dX11_count_150 : decode cX11_count 150 = .ok (.aload_n 0, 1) := by decide +kernel
theorem dX11_count_151 : decode cX11_count 151 = .ok (.getfield 12, 3) := by decide +kernel
theorem dX11_count_154 : decode cX11_count 154 = .ok (.getfield 35, 3) := by decide +kernel
theorem dX11_count_157 : decode cX11_count 157 = .ok (.invokevirtual 99, 3) := by decide +kernel
theorem dX11_count_160 : decode cX11_count 160 = .ok (.invokevirtual 358, 3) := by decide +kernel
theorem dX11_count_163 : decode cX11_count 163 = .ok (.ireturn, 1) := by decide +kernel
theorem dX11_count_164 : decode cX11_count 164 = .ok (.aload_n 0, 1) := by decide +kernel
theorem dX11_count_165 : decode cX11_count 165 = .ok (.getfield 12, 3) := by decide +kernel
theorem dX11_count_168 : decode cX11_count 168 = .ok (.getfield 35, 3) := by decide +kernel
theorem dX11_count_171 : decode cX11_count 171 = .ok (.invokevirtual 185, 3) := by decide +kernel
theorem dX11_count_174 : decode cX11_count 174 = .ok (.invokestatic 56, 3) := by decide +kernel
theorem dX11_count_177 : decode cX11_count 177 = .ok (.ireturn, 1) := by decide +kernel
theorem dX11_count_178 : decode cX11_count 178 = .ok (.aload_n 0, 1) := by decide +kernel
theorem dX11_count_179 : decode cX11_count 179 = .ok (.getfield 12, 3) := by decide +kernel
theorem dX11_count_182 : decode cX11_count 182 = .ok (.getfield 133, 3) := by decide +kernel
theorem dX11_count_185 : decode cX11_count 185 = .ok (.getfield 361, 3) := by decide +kernel
theorem dX11_count_188 : decode cX11_count 188 = .ok (.ireturn, 1) := by decide +kernel
theorem dX11_count_189 : decode cX11_count 189 = .ok (.aload_n 0, 1) := by decide +kernel
theorem dX11_count_190 : decode cX11_count 190 = .ok (.getfield 12, 3) := by decide +kernel
theorem dX11_count_193 : decode cX11_count 193 = .ok (.getfield 133, 3) := by decide +kernel
theorem dX11_count_196 : decode cX11_count 196 = .ok (.getfield 362, 3) := by decide +kernel
theorem dX11_count_199 : decode cX11_count 199 = .ok (.ireturn, 1) := by decide +kernel
theorem dX11_count_200 : decode cX11_count 200 = .ok (.aload_n 0, 1) := by decide +kernel
theorem dX11_count_201 : decode cX11_count 201 = .ok (.getfield 12, 3) := by decide +kernel
theorem dX11_count_204 : decode cX11_count 204 = .ok (.getfield 147, 3) := by decide +kernel
theorem dX11_count_207 : decode cX11_count 207 = .ok (.iconst 3, 1) := by decide +kernel
theorem dX11_count_208 : decode cX11_count 208 = .ok (.invokevirtual 213, 3) := by decide +kernel
theorem dX11_count_211 : decode cX11_count 211 = .ok (.ireturn, 1) := by decide +kernel
theorem dX11_count_212 : decode cX11_count 212 = .ok (.aload_n 0, 1) := by decide +kernel
theorem dX11_count_213 : decode cX11_count 213 = .ok (.getfield 12, 3) := by decide +kernel
theorem dX11_count_216 : decode cX11_count 216 = .ok (.getfield 147, 3) := by decide +kernel
theorem dX11_count_219 : decode cX11_count 219 = .ok (.iconst 2, 1) := by decide +kernel
theorem dX11_count_220 : decode cX11_count 220 = .ok (.invokevirtual 213, 3) := by decide +kernel
theorem dX11_count_223 : decode cX11_count 223 = .ok (.ireturn, 1) := by decide +kernel
theorem dX11_count_224 : decode cX11_count 224 = .ok (.aload_n 0, 1) := by decide +kernel
theorem dX11_count_225 : decode cX11_count 225 = .ok (.getfield 12, 3) := by decide +kernel
theorem dX11_count_228 : decode cX11_count 228 = .ok (.getfield 147, 3) := by decide +kernel
theorem dX11_count_231 : decode cX11_count 231 = .ok (.invokevirtual 365, 3) := by decide +kernel
theorem dX11_count_234 : decode cX11_count 234 = .ok (.ireturn, 1) := by decide +kernel
theorem dX11_count_235 : decode cX11_count 235 = .ok (.aload_n 0, 1) := by decide +kernel
theorem dX11_count_236 : decode cX11_count 236 = .ok (.getfield 12, 3) := by decide +kernel
theorem dX11_count_239 : decode cX11_count 239 = .ok (.invokevirtual 124, 3) := by decide +kernel
theorem dX11_count_242 : decode cX11_count 242 = .ok (.ifnonnull 8, 3) := by decide +kernel
theorem dX11_count_245 : decode cX11_count 245 = .ok (.bipush (-5), 2) := by decide +kernel
theorem dX11_count_247 : decode cX11_count 247 = .ok (.goto 13, 3) := by decide +kernel
theorem dX11_count_260 : decode cX11_count 260 = .ok (.ireturn, 1) := by decide +kernel
theorem dX11_count_261 : decode cX11_count 261 = .ok (.aload_n 0, 1) := by decide +kernel
theorem dX11_count_262 : decode cX11_count 262 = .ok (.getfield 12, 3) := by decide +kernel
theorem dX11_count_265 : decode cX11_count 265 = .ok (.invokevirtual 124, 3) := by decide +kernel
theorem dX11_count_268 : decode cX11_count 268 = .ok (.ifnull 20, 3) := by decide +kernel
theorem dX11_count_288 : decode cX11_count 288 = .ok (.iconst 0, 1) := by decide +kernel
theorem dX11_count_289 : decode cX11_count 289 = .ok (.invokestatic 56, 3) := by decide +kernel
theorem dX11_count_292 : decode cX11_count 292 = .ok (.ireturn, 1) := by decide +kernel
theorem dX11_count_293 : decode cX11_count 293 = .ok (.aload_n 0, 1) := by decide +kernel
theorem dX11_count_294 : decode cX11_count 294 = .ok (.getfield 12, 3) := by decide +kernel
theorem dX11_count_297 : decode cX11_count 297 = .ok (.getfield 371, 3) := by decide +kernel
theorem dX11_count_300 : decode cX11_count 300 = .ok (.ireturn, 1) := by decide +kernel
theorem dX11_count_301 : decode cX11_count 301 = .ok (.aload_n 0, 1) := by decide +kernel
theorem dX11_count_302 : decode cX11_count 302 = .ok (.getfield 12, 3) := by decide +kernel
theorem dX11_count_305 : decode cX11_count 305 = .ok (.getfield 216, 3) := by decide +kernel
theorem dX11_count_308 : decode cX11_count 308 = .ok (.getfield 374, 3) := by decide +kernel
theorem dX11_count_311 : decode cX11_count 311 = .ok (.ireturn, 1) := by decide +kernel
theorem dX11_count_312 : decode cX11_count 312 = .ok (.aload_n 0, 1) := by decide +kernel
theorem dX11_count_313 : decode cX11_count 313 = .ok (.getfield 12, 3) := by decide +kernel
theorem dX11_count_316 : decode cX11_count 316 = .ok (.getfield 216, 3) := by decide +kernel
theorem dX11_count_319 : decode cX11_count 319 = .ok (.getfield 334, 3) := by decide +kernel
theorem dX11_count_322 : decode cX11_count 322 = .ok (.aload_n 0, 1) := by decide +kernel
theorem dX11_count_323 : decode cX11_count 323 = .ok (.getfield 12, 3) := by decide +kernel
theorem dX11_count_326 : decode cX11_count 326 = .ok (.getfield 216, 3) := by decide +kernel
theorem dX11_count_329 : decode cX11_count 329 = .ok (.getfield 374, 3) := by decide +kernel
theorem dX11_count_332 : decode cX11_count 332 = .ok (.isub, 1) := by decide +kernel
theorem dX11_count_333 : decode cX11_count 333 = .ok (.ireturn, 1) := by decide +kernel
theorem dX11_count_334 : decode cX11_count 334 = .ok (.aload_n 0, 1) := by decide +kernel
theorem dX11_count_335 : decode cX11_count 335 = .ok (.getfield 12, 3) := by decide +kernel
theorem dX11_count_338 : decode cX11_count 338 = .ok (.invokevirtual 95, 3) := by decide +kernel
theorem dX11_count_341 : decode cX11_count 341 = .ok (.aload_n 0, 1) := by decide +kernel
theorem dX11_count_342 : decode cX11_count 342 = .ok (.getfield 12, 3) := by decide +kernel
theorem dX11_count_345 : decode cX11_count 345 = .ok (.getfield 147, 3) := by decide +kernel
theorem dX11_count_348 : decode cX11_count 348 = .ok (.invokevirtual 377, 3) := by decide +kernel
theorem dX11_count_351 : decode cX11_count 351 = .ok (.iadd, 1) := by decide +kernel
theorem dX11_count_352 : decode cX11_count 352 = .ok (.ireturn, 1) := by decide +kernel
theorem dX11_count_353 : decode cX11_count 353 = .ok (.aload_n 0, 1) := by decide +kernel
theorem dX11_count_354 : decode cX11_count 354 = .ok (.getfield 12, 3) := by decide +kernel
theorem dX11_count_357 : decode cX11_count 357 = .ok (.getfield 380, 3) := by decide +kernel
theorem dX11_count_360 : decode cX11_count 360 = .ok (.ireturn, 1) := by decide +kernel
theorem dX11_count_361 : decode cX11_count 361 = .ok (.aload_n 0, 1) := by decide +kernel
theorem dX11_count_362 : decode cX11_count 362 = .ok (.getfield 12, 3) := by decide +kernel
theorem dX11_count_365 : decode cX11_count 365 = .ok (.getfield 383, 3) := by decide +kernel
theorem dX11_count_368 : decode cX11_count 368 = .ok (.ireturn, 1) := by decide +kernel
theorem dX11_count_369 : decode cX11_count 369 = .ok (.iconst (-1), 1) := by decide +kernel
theorem dX11_count_370 : decode cX11_count 370 = .ok (.ireturn, 1) := by decide +kernel
set_option maxRecDepth 100000 in
theorem q_505 : (.code yX3_hasQuorum cX3_hasQuorum 1 (some .boolean)) ∈ lw_all := List.mem_filter.mpr ⟨List.mem_of_getElem? (i := 505) (rfl), by decide +kernel⟩
set_option maxRecDepth 100000 in
theorem q_509 : (.code yX3_weightOf cX3_weightOf 4 (some .int)) ∈ lw_all := List.mem_filter.mpr ⟨List.mem_of_getElem? (i := 509) (rfl), by decide +kernel⟩
set_option maxRecDepth 100000 in
theorem q_931 : (.code yX9_busyCommittees cX9_busyCommittees 3 (some .int)) ∈ lw_all := List.mem_filter.mpr ⟨List.mem_of_getElem? (i := 931) (rfl), by decide +kernel⟩
set_option maxRecDepth 100000 in
theorem q_936 : (.code yX9_motions cX9_motions 3 (some .int)) ∈ lw_all := List.mem_filter.mpr ⟨List.mem_of_getElem? (i := 936) (rfl), by decide +kernel⟩
set_option maxRecDepth 100000 in
theorem q_582 : (.code yX9_sizeOf cX9_sizeOf 4 (some .int)) ∈ lw_all := List.mem_filter.mpr ⟨List.mem_of_getElem? (i := 582) (rfl), by decide +kernel⟩
set_option maxRecDepth 100000 in
theorem q_458 : (.code yX11_bit cX11_bit 1 (some .int)) ∈ lw_all := List.mem_filter.mpr ⟨List.mem_of_getElem? (i := 458) (rfl), by decide +kernel⟩
set_option maxRecDepth 100000 in
theorem q_107 : (.fieldLink RX11 355 "AssemblyChair$House" "present" "I") ∈ lw_all := List.mem_filter.mpr ⟨List.mem_of_getElem? (i := 107) (by decide +kernel), by decide +kernel⟩
set_option maxRecDepth 100000 in
theorem q_188 : (.fieldLink RX11 361 "AssemblyChair$Docket" "size" "I") ∈ lw_all := List.mem_filter.mpr ⟨List.mem_of_getElem? (i := 188) (by decide +kernel), by decide +kernel⟩
set_option maxRecDepth 100000 in
theorem q_190 : (.fieldLink RX11 362 "AssemblyChair$Docket" "resolutions" "I") ∈ lw_all := List.mem_filter.mpr ⟨List.mem_of_getElem? (i := 190) (by decide +kernel), by decide +kernel⟩
set_option maxRecDepth 100000 in
theorem q_358 : (.fieldLink RX11 371 "AssemblyChair$Meeting" "motionsMade" "I") ∈ lw_all := List.mem_filter.mpr ⟨List.mem_of_getElem? (i := 358) (by decide +kernel), by decide +kernel⟩
set_option maxRecDepth 100000 in
theorem q_267 : (.fieldLink RX11 374 "AssemblyChair$Ballots" "adopted" "I") ∈ lw_all := List.mem_filter.mpr ⟨List.mem_of_getElem? (i := 267) (by decide +kernel), by decide +kernel⟩
set_option maxRecDepth 100000 in
theorem q_360 : (.fieldLink RX11 380 "AssemblyChair$Meeting" "mainsDropped" "I") ∈ lw_all := List.mem_filter.mpr ⟨List.mem_of_getElem? (i := 360) (by decide +kernel), by decide +kernel⟩
set_option maxRecDepth 100000 in
theorem q_362 : (.fieldLink RX11 383 "AssemblyChair$Meeting" "mainsNotMade" "I") ∈ lw_all := List.mem_filter.mpr ⟨List.mem_of_getElem? (i := 362) (by decide +kernel), by decide +kernel⟩
set_option maxRecDepth 100000 in
theorem q_102 : (.fieldLink RX11 39 "AssemblyChair$House" "size" "I") ∈ lw_all := List.mem_filter.mpr ⟨List.mem_of_getElem? (i := 102) (by decide +kernel), by decide +kernel⟩
set_option maxRecDepth 100000 in
theorem q_503 : (.instanceMethod yX3_hasQuorum) ∈ lw_all := List.mem_filter.mpr ⟨List.mem_of_getElem? (i := 503) (by decide +kernel), by decide +kernel⟩
set_option maxRecDepth 100000 in
theorem q_507 : (.instanceMethod yX3_weightOf) ∈ lw_all := List.mem_filter.mpr ⟨List.mem_of_getElem? (i := 507) (by decide +kernel), by decide +kernel⟩
set_option maxRecDepth 100000 in
theorem q_929 : (.instanceMethod yX9_busyCommittees) ∈ lw_all := List.mem_filter.mpr ⟨List.mem_of_getElem? (i := 929) (by decide +kernel), by decide +kernel⟩
set_option maxRecDepth 100000 in
theorem q_934 : (.instanceMethod yX9_motions) ∈ lw_all := List.mem_filter.mpr ⟨List.mem_of_getElem? (i := 934) (by decide +kernel), by decide +kernel⟩
set_option maxRecDepth 100000 in
theorem q_580 : (.instanceMethod yX9_sizeOf) ∈ lw_all := List.mem_filter.mpr ⟨List.mem_of_getElem? (i := 580) (by decide +kernel), by decide +kernel⟩
set_option maxRecDepth 100000 in
theorem q_502 : (.methodLink RX11 185 yX3_hasQuorum) ∈ lw_all := List.mem_filter.mpr ⟨List.mem_of_getElem? (i := 502) (by decide +kernel), by decide +kernel⟩
set_option maxRecDepth 100000 in
theorem q_579 : (.methodLink RX11 213 yX9_sizeOf) ∈ lw_all := List.mem_filter.mpr ⟨List.mem_of_getElem? (i := 579) (by decide +kernel), by decide +kernel⟩
set_option maxRecDepth 100000 in
theorem q_927 : (.methodLink RX11 358 yX3_weightOf) ∈ lw_all := List.mem_filter.mpr ⟨List.mem_of_getElem? (i := 927) (by decide +kernel), by decide +kernel⟩
set_option maxRecDepth 100000 in
theorem q_928 : (.methodLink RX11 365 yX9_busyCommittees) ∈ lw_all := List.mem_filter.mpr ⟨List.mem_of_getElem? (i := 928) (by decide +kernel), by decide +kernel⟩
set_option maxRecDepth 100000 in
theorem q_933 : (.methodLink RX11 377 yX9_motions) ∈ lw_all := List.mem_filter.mpr ⟨List.mem_of_getElem? (i := 933) (by decide +kernel), by decide +kernel⟩
set_option maxRecDepth 100000 in
theorem q_456 : (.methodLink RX11 56 yX11_bit) ∈ lw_all := List.mem_filter.mpr ⟨List.mem_of_getElem? (i := 456) (by decide +kernel), by decide +kernel⟩
set_option maxRecDepth 100000 in
theorem q_504 : (.selects RX3 yX3_hasQuorum yX3_hasQuorum) ∈ lw_all := List.mem_filter.mpr ⟨List.mem_of_getElem? (i := 504) (by decide +kernel), by decide +kernel⟩
set_option maxRecDepth 100000 in
theorem q_508 : (.selects RX3 yX3_weightOf yX3_weightOf) ∈ lw_all := List.mem_filter.mpr ⟨List.mem_of_getElem? (i := 508) (by decide +kernel), by decide +kernel⟩
set_option maxRecDepth 100000 in
theorem q_930 : (.selects RX9 yX9_busyCommittees yX9_busyCommittees) ∈ lw_all := List.mem_filter.mpr ⟨List.mem_of_getElem? (i := 930) (by decide +kernel), by decide +kernel⟩
set_option maxRecDepth 100000 in
theorem q_935 : (.selects RX9 yX9_motions yX9_motions) ∈ lw_all := List.mem_filter.mpr ⟨List.mem_of_getElem? (i := 935) (by decide +kernel), by decide +kernel⟩
set_option maxRecDepth 100000 in
theorem q_581 : (.selects RX9 yX9_sizeOf yX9_sizeOf) ∈ lw_all := List.mem_filter.mpr ⟨List.mem_of_getElem? (i := 581) (by decide +kernel), by decide +kernel⟩
set_option maxRecDepth 100000 in
theorem q_457 : (.static yX11_bit) ∈ lw_all := List.mem_filter.mpr ⟨List.mem_of_getElem? (i := 457) (by decide +kernel), by decide +kernel⟩
set_option maxHeartbeats 4000000 in
set_option maxRecDepth 100000 in
theorem c_X11_count (l : Launch) (D : va_G) (cI cQ cM cR : ClassId) (x0 : Nat) (nme : Nat) (sme : Nat) (xr : Nat) (xs : Nat) (nho : Nat) (ndk : Nat) (nsh : Nat) (nmi : Nat) (nba : Nat) (nde : Nat) (nbu : Nat) (nhw : Nat) (nhs : Nat) (ndq : Nat) (ndr : Nat) (nst : Nat) (nss : Nat) (nsp : Nat) (nby : Nat) (nbn : Nat) (p0 : Int32) : Met l yX11_count (ws_ yX11_count cX11_count 2 (some .int)) ({ frames := 2, cells := 0, slots := 0, locals := 44 }) (PP D cI cQ cM cR [.ref x0, .int p0] [(x0, .inr (11, [.ref nme, .ref sme, .int 0, .ref xr, .ref xs])), (nme, .inr (4, [.ref nho, .ref ndk, .ref nsh, .ref nmi, .ref nba, .ref nde, .ref nbu, .int 1, .int 0, .null, .int 0, .int 0, .int 0])), (nho, .inr (3, [.int 0, .int 50, .int 0, .ref nhw, .ref nhs])), (ndk, .inr (2, [.int 0, .int 0, .ref ndq, .ref ndr])), (nsh, .inr (9, [.int 0, .ref nst, .ref nss, .ref nsp])), (nba, .inr (0, [.int 0, .int 0, .int 0, .ref nby, .ref nbn, .int 0, .int 0, .int 0, .int 0, .int 0, .int 99, .int 0, .int 0]))]) (QP (some (.int (sp_count p0)))) 0 0 (fun _ => False) := by
  refine Met.ofW (cc := cX11_count) (maxL := 2) (ret := (some .int)) (by decide) rfl ?_
  intro p e s m args below meth c s₁ B hml hv
  obtain ⟨rfl, hP, hK⟩ := hv
  have hx := B.exec
  have hb := B.bytes
  have hr := B.returns
  have hts : ∀ w ∈ lw_all, w.before _ s = true := fun w h => atoms_spec (ws := (ws_ yX11_count cX11_count 2 (some .int))) B.pre w (List.mem_cons_of_mem _ h)
  have hown : s.vm.findClass RX11 = some m.cls := findClass_of_methodNamed B.named
  have hlocks := B.notSynchronized
  have hP : va_P D vwCl [(x0, .inr (11, [.ref nme, .ref sme, .int 0, .ref xr, .ref xs])), (nme, .inr (4, [.ref nho, .ref ndk, .ref nsh, .ref nmi, .ref nba, .ref nde, .ref nbu, .int 1, .int 0, .null, .int 0, .int 0, .int 0])), (nho, .inr (3, [.int 0, .int 50, .int 0, .ref nhw, .ref nhs])), (ndk, .inr (2, [.int 0, .int 0, .ref ndq, .ref ndr])), (nsh, .inr (9, [.int 0, .ref nst, .ref nss, .ref nsp])), (nba, .inr (0, [.int 0, .int 0, .int 0, .ref nby, .ref nbn, .int 0, .int 0, .int 0, .int 0, .int 0, .int 99, .int 0, .int 0]))] s.heap := hP
  have hl := lv_entry ([.ref x0, .int p0]) (n := 2) (Nat.le_of_ble_eq_true rfl)
  rw [lg_entry_eq]
  generalize (lg_sl ([.ref x0, .int p0]) ++ List.replicate (2 - (lg_sl ([.ref x0, .int p0])).length) Slot.unset).toArray = ls at hl ⊢
  have hl : lv_has ls 2 [(0, .ref x0), (1, .int p0)] := hl
  rcases split19 p0 with ⟨h, h2⟩ | ⟨h, h2⟩ | rfl | rfl | rfl | rfl | rfl | rfl | rfl | rfl | rfl | rfl | rfl | rfl | rfl | rfl | rfl | rfl | rfl | rfl | rfl
  · skip
    refine lv_iload_n hx hb dX11_count_0 rfl (lv_at hl 1 rfl) ?_
    refine lv_tableOut (tgt := 369) hx hb dX11_count_1 (Or.inl h2) (by decide) ?_
    refine lv_iconst (v := (-1)) hx hb dX11_count_369 (by decide) ?_
    exact W.iret hx hb hr (fun t ht hW => ⟨by rw [sp_count_lt h], ht⟩) (fun q hq => absurd hq List.not_mem_nil) dX11_count_370
  · skip
    refine lv_iload_n hx hb dX11_count_0 rfl (lv_at hl 1 rfl) ?_
    refine lv_tableOut (tgt := 369) hx hb dX11_count_1 (Or.inr h2) (by decide) ?_
    refine lv_iconst (v := (-1)) hx hb dX11_count_369 (by decide) ?_
    exact W.iret hx hb hr (fun t ht hW => ⟨by rw [sp_count_gt h], ht⟩) (fun q hq => absurd hq List.not_mem_nil) dX11_count_370
  · skip
    refine lv_iload_n hx hb dX11_count_0 rfl (lv_at hl 1 rfl) ?_
    refine lv_tableIn (tgt := 92) hx hb dX11_count_1 (by decide) (by decide) rfl (by decide) ?_
    refine lv_aload_n hx hb dX11_count_92 rfl (lv_at hl 0 rfl) ?_
    refine va_get (D := D) (ci := 11) (v := .ref nme) (C := RX11) (T := TX11) (N := 5) hx hb hts in_X11 hown hK hP 0 rfl rfl 0 (by decide) (hts _ q_412) (fun _ h9 => h9) rfl dX11_count_93 ?_
    refine va_get (D := D) (ci := 4) (v := .int 0) (C := RX4) (T := TX4) (N := 13) hx hb hts in_X4 hown hK hP 1 rfl rfl 8 (by decide) (hts _ q_354) (fun _ h9 => h9) rfl dX11_count_96 ?_
    exact W.iret hx hb hr (fun t ht hW => ⟨by first | rfl | decide, ht⟩) (fun q hq => absurd hq List.not_mem_nil) dX11_count_99
  · skip
    refine lv_iload_n hx hb dX11_count_0 rfl (lv_at hl 1 rfl) ?_
    refine lv_tableIn (tgt := 100) hx hb dX11_count_1 (by decide) (by decide) rfl (by decide) ?_
    refine lv_aload_n hx hb dX11_count_100 rfl (lv_at hl 0 rfl) ?_
    refine va_get (D := D) (ci := 11) (v := .ref nme) (C := RX11) (T := TX11) (N := 5) hx hb hts in_X11 hown hK hP 0 rfl rfl 0 (by decide) (hts _ q_412) (fun _ h9 => h9) rfl dX11_count_101 ?_
    refine va_get (D := D) (ci := 4) (v := .int 1) (C := RX4) (T := TX4) (N := 13) hx hb hts in_X4 hown hK hP 1 rfl rfl 7 (by decide) (hts _ q_352) (fun _ h9 => h9) rfl dX11_count_104 ?_
    refine p_call (va_runS (As := [.int 1]) (rest := []) ⟨hx, hb, hml, hown, hts⟩ (c_X11_bit l D cI cQ cM cR 1) (va_cwS 1 hts (gS q_456 q_457 q_65 q_458) rfl rfl rfl (by decide +kernel) ⟨Nat.le_of_ble_eq_true rfl, Nat.le_of_ble_eq_true rfl⟩) ⟨PP_blind, PP_of hK (hP.sub [] rfl)⟩ rfl rfl hl.1 rfl (lv_room (Nat.le_of_ble_eq_true rfl)) dX11_count_107 ⟨Nat.le_of_ble_eq_true rfl, Nat.le_of_ble_eq_true rfl⟩) ?_
    refine lv_cst (v := 1) (by decide) ?_
    exact W.iret hx hb hr (fun t ht hW => ⟨by first | rfl | decide, ht⟩) (fun q hq => absurd hq List.not_mem_nil) dX11_count_110
  · skip
    refine lv_iload_n hx hb dX11_count_0 rfl (lv_at hl 1 rfl) ?_
    refine lv_tableIn (tgt := 111) hx hb dX11_count_1 (by decide) (by decide) rfl (by decide) ?_
    refine lv_aload_n hx hb dX11_count_111 rfl (lv_at hl 0 rfl) ?_
    refine va_get (D := D) (ci := 11) (v := .ref nme) (C := RX11) (T := TX11) (N := 5) hx hb hts in_X11 hown hK hP 0 rfl rfl 0 (by decide) (hts _ q_412) (fun _ h9 => h9) rfl dX11_count_112 ?_
    refine va_get (D := D) (ci := 4) (v := .ref nho) (C := RX4) (T := TX4) (N := 13) hx hb hts in_X4 hown hK hP 1 rfl rfl 0 (by decide) (hts _ q_338) (fun _ h9 => h9) rfl dX11_count_115 ?_
    refine va_get (D := D) (ci := 3) (v := .int 0) (C := RX3) (T := TX3) (N := 5) hx hb hts in_X3 hown hK hP 2 rfl rfl 0 (by decide) (hts _ q_102) (fun _ h9 => h9) rfl dX11_count_118 ?_
    exact W.iret hx hb hr (fun t ht hW => ⟨by first | rfl | decide, ht⟩) (fun q hq => absurd hq List.not_mem_nil) dX11_count_121
  · skip
    refine lv_iload_n hx hb dX11_count_0 rfl (lv_at hl 1 rfl) ?_
    refine lv_tableIn (tgt := 122) hx hb dX11_count_1 (by decide) (by decide) rfl (by decide) ?_
    refine lv_aload_n hx hb dX11_count_122 rfl (lv_at hl 0 rfl) ?_
    refine va_get (D := D) (ci := 11) (v := .ref nme) (C := RX11) (T := TX11) (N := 5) hx hb hts in_X11 hown hK hP 0 rfl rfl 0 (by decide) (hts _ q_412) (fun _ h9 => h9) rfl dX11_count_123 ?_
    refine va_get (D := D) (ci := 4) (v := .ref nho) (C := RX4) (T := TX4) (N := 13) hx hb hts in_X4 hown hK hP 1 rfl rfl 0 (by decide) (hts _ q_338) (fun _ h9 => h9) rfl dX11_count_126 ?_
    refine lv_aload_n hx hb dX11_count_129 rfl (lv_at hl 0 rfl) ?_
    refine va_get (D := D) (ci := 11) (v := .ref nme) (C := RX11) (T := TX11) (N := 5) hx hb hts in_X11 hown hK hP 0 rfl rfl 0 (by decide) (hts _ q_412) (fun _ h9 => h9) rfl dX11_count_130 ?_
    refine va_get (D := D) (ci := 4) (v := .ref nho) (C := RX4) (T := TX4) (N := 13) hx hb hts in_X4 hown hK hP 1 rfl rfl 0 (by decide) (hts _ q_338) (fun _ h9 => h9) rfl dX11_count_133 ?_
    refine va_get (D := D) (ci := 3) (v := .int 0) (C := RX3) (T := TX3) (N := 5) hx hb hts in_X3 hown hK hP 2 rfl rfl 2 (by decide) (hts _ q_107) (fun _ h9 => h9) rfl dX11_count_136 ?_
    refine p_call (va_runV (As := [.int 0]) (rest := []) ⟨hx, hb, hml, hown, hts⟩ (c_X3_weightOf l D cI cQ cM cR nho nhw nhs 0) (cwV 1 hts (gV q_927 q_507 q_508 q_67 q_509) rfl rfl rfl (by decide +kernel) ⟨Nat.le_of_ble_eq_true rfl, Nat.le_of_ble_eq_true rfl⟩) ⟨PP_blind, va_recv hK hP (ci := 3) (q0 := 2) rfl rfl, PP_of hK (hP.sub [2] rfl)⟩ rfl rfl hl.1 rfl (lv_room (Nat.le_of_ble_eq_true rfl)) dX11_count_139 ⟨Nat.le_of_ble_eq_true rfl, Nat.le_of_ble_eq_true rfl⟩) ?_
    exact W.iret hx hb hr (fun t ht hW => ⟨by first | rfl | decide, ht⟩) (fun q hq => absurd hq List.not_mem_nil) dX11_count_142
  · skip
    refine lv_iload_n hx hb dX11_count_0 rfl (lv_at hl 1 rfl) ?_
    refine lv_tableIn (tgt := 143) hx hb dX11_count_1 (by decide) (by decide) rfl (by decide) ?_
    refine lv_aload_n hx hb dX11_count_143 rfl (lv_at hl 0 rfl) ?_
    refine va_get (D := D) (ci := 11) (v := .ref nme) (C := RX11) (T := TX11) (N := 5) hx hb hts in_X11 hown hK hP 0 rfl rfl 0 (by decide) (hts _ q_412) (fun _ h9 => h9) rfl dX11_count_144 ?_
    refine va_get (D := D) (ci := 4) (v := .ref nho) (C := RX4) (T := TX4) (N := 13) hx hb hts in_X4 hown hK hP 1 rfl rfl 0 (by decide) (hts _ q_338) (fun _ h9 => h9) rfl dX11_count_147 ?_
    refine lv_aload_n hx hb dX11_count_150 rfl (lv_at hl 0 rfl) ?_
    refine va_get (D := D) (ci := 11) (v := .ref nme) (C := RX11) (T := TX11) (N := 5) hx hb hts in_X11 hown hK hP 0 rfl rfl 0 (by decide) (hts _ q_412) (fun _ h9 => h9) rfl dX11_count_151 ?_
    refine va_get (D := D) (ci := 4) (v := .ref nho) (C := RX4) (T := TX4) (N := 13) hx hb hts in_X4 hown hK hP 1 rfl rfl 0 (by decide) (hts _ q_338) (fun _ h9 => h9) rfl dX11_count_154 ?_
    refine p_call (va_runV (As := []) (rest := [.ref nho]) ⟨hx, hb, hml, hown, hts⟩ (c_X3_everyone l D cI cQ cM cR nho nhw nhs) (cwV 0 hts (gV q_686 q_511 q_512 q_67 q_513) rfl rfl rfl (by decide +kernel) ⟨Nat.le_of_ble_eq_true rfl, Nat.le_of_ble_eq_true rfl⟩) ⟨PP_blind, va_recv hK hP (ci := 3) (q0 := 2) rfl rfl, PP_of hK (hP.sub [2] rfl)⟩ rfl rfl hl.1 rfl (lv_room (Nat.le_of_ble_eq_true rfl)) dX11_count_157 ⟨Nat.le_of_ble_eq_true rfl, Nat.le_of_ble_eq_true rfl⟩) ?_
    refine p_call (va_runV (As := [.int 0]) (rest := []) ⟨hx, hb, hml, hown, hts⟩ (c_X3_weightOf l D cI cQ cM cR nho nhw nhs 0) (cwV 1 hts (gV q_927 q_507 q_508 q_67 q_509) rfl rfl rfl (by decide +kernel) ⟨Nat.le_of_ble_eq_true rfl, Nat.le_of_ble_eq_true rfl⟩) ⟨PP_blind, va_recv hK hP (ci := 3) (q0 := 2) rfl rfl, PP_of hK (hP.sub [2] rfl)⟩ rfl rfl hl.1 rfl (lv_room (Nat.le_of_ble_eq_true rfl)) dX11_count_160 ⟨Nat.le_of_ble_eq_true rfl, Nat.le_of_ble_eq_true rfl⟩) ?_
    exact W.iret hx hb hr (fun t ht hW => ⟨by first | rfl | decide, ht⟩) (fun q hq => absurd hq List.not_mem_nil) dX11_count_163
  · skip
    refine lv_iload_n hx hb dX11_count_0 rfl (lv_at hl 1 rfl) ?_
    refine lv_tableIn (tgt := 164) hx hb dX11_count_1 (by decide) (by decide) rfl (by decide) ?_
    refine lv_aload_n hx hb dX11_count_164 rfl (lv_at hl 0 rfl) ?_
    refine va_get (D := D) (ci := 11) (v := .ref nme) (C := RX11) (T := TX11) (N := 5) hx hb hts in_X11 hown hK hP 0 rfl rfl 0 (by decide) (hts _ q_412) (fun _ h9 => h9) rfl dX11_count_165 ?_
    refine va_get (D := D) (ci := 4) (v := .ref nho) (C := RX4) (T := TX4) (N := 13) hx hb hts in_X4 hown hK hP 1 rfl rfl 0 (by decide) (hts _ q_338) (fun _ h9 => h9) rfl dX11_count_168 ?_
    refine p_call (va_runV (As := []) (rest := []) ⟨hx, hb, hml, hown, hts⟩ (c_X3_hasQuorum l D cI cQ cM cR nho nhw nhs) (cwV 0 hts (gV q_502 q_503 q_504 q_67 q_505) rfl rfl rfl (by decide +kernel) ⟨Nat.le_of_ble_eq_true rfl, Nat.le_of_ble_eq_true rfl⟩) ⟨PP_blind, va_recv hK hP (ci := 3) (q0 := 2) rfl rfl, PP_of hK (hP.sub [2] rfl)⟩ rfl rfl hl.1 rfl (lv_room (Nat.le_of_ble_eq_true rfl)) dX11_count_171 ⟨Nat.le_of_ble_eq_true rfl, Nat.le_of_ble_eq_true rfl⟩) ?_
    refine p_call (va_runS (As := [.int 0]) (rest := []) ⟨hx, hb, hml, hown, hts⟩ (c_X11_bit l D cI cQ cM cR 0) (va_cwS 1 hts (gS q_456 q_457 q_65 q_458) rfl rfl rfl (by decide +kernel) ⟨Nat.le_of_ble_eq_true rfl, Nat.le_of_ble_eq_true rfl⟩) ⟨PP_blind, PP_of hK (hP.sub [] rfl)⟩ rfl rfl hl.1 rfl (lv_room (Nat.le_of_ble_eq_true rfl)) dX11_count_174 ⟨Nat.le_of_ble_eq_true rfl, Nat.le_of_ble_eq_true rfl⟩) ?_
    refine lv_cst (v := 0) (by decide) ?_
    exact W.iret hx hb hr (fun t ht hW => ⟨by first | rfl | decide, ht⟩) (fun q hq => absurd hq List.not_mem_nil) dX11_count_177
  · skip
    refine lv_iload_n hx hb dX11_count_0 rfl (lv_at hl 1 rfl) ?_
    refine lv_tableIn (tgt := 178) hx hb dX11_count_1 (by decide) (by decide) rfl (by decide) ?_
    refine lv_aload_n hx hb dX11_count_178 rfl (lv_at hl 0 rfl) ?_
    refine va_get (D := D) (ci := 11) (v := .ref nme) (C := RX11) (T := TX11) (N := 5) hx hb hts in_X11 hown hK hP 0 rfl rfl 0 (by decide) (hts _ q_412) (fun _ h9 => h9) rfl dX11_count_179 ?_
    refine va_get (D := D) (ci := 4) (v := .ref ndk) (C := RX4) (T := TX4) (N := 13) hx hb hts in_X4 hown hK hP 1 rfl rfl 1 (by decide) (hts _ q_340) (fun _ h9 => h9) rfl dX11_count_182 ?_
    refine va_get (D := D) (ci := 2) (v := .int 0) (C := RX2) (T := TX2) (N := 4) hx hb hts in_X2 hown hK hP 3 rfl rfl 0 (by decide) (hts _ q_188) (fun _ h9 => h9) rfl dX11_count_185 ?_
    exact W.iret hx hb hr (fun t ht hW => ⟨by first | rfl | decide, ht⟩) (fun q hq => absurd hq List.not_mem_nil) dX11_count_188
  · skip
    refine lv_iload_n hx hb dX11_count_0 rfl (lv_at hl 1 rfl) ?_
    refine lv_tableIn (tgt := 189) hx hb dX11_count_1 (by decide) (by decide) rfl (by decide) ?_
    refine lv_aload_n hx hb dX11_count_189 rfl (lv_at hl 0 rfl) ?_
    refine va_get (D := D) (ci := 11) (v := .ref nme) (C := RX11) (T := TX11) (N := 5) hx hb hts in_X11 hown hK hP 0 rfl rfl 0 (by decide) (hts _ q_412) (fun _ h9 => h9) rfl dX11_count_190 ?_
    refine va_get (D := D) (ci := 4) (v := .ref ndk) (C := RX4) (T := TX4) (N := 13) hx hb hts in_X4 hown hK hP 1 rfl rfl 1 (by decide) (hts _ q_340) (fun _ h9 => h9) rfl dX11_count_193 ?_
    refine va_get (D := D) (ci := 2) (v := .int 0) (C := RX2) (T := TX2) (N := 4) hx hb hts in_X2 hown hK hP 3 rfl rfl 1 (by decide) (hts _ q_190) (fun _ h9 => h9) rfl dX11_count_196 ?_
    exact W.iret hx hb hr (fun t ht hW => ⟨by first | rfl | decide, ht⟩) (fun q hq => absurd hq List.not_mem_nil) dX11_count_199
  · skip
    refine lv_iload_n hx hb dX11_count_0 rfl (lv_at hl 1 rfl) ?_
    refine lv_tableIn (tgt := 200) hx hb dX11_count_1 (by decide) (by decide) rfl (by decide) ?_
    refine lv_aload_n hx hb dX11_count_200 rfl (lv_at hl 0 rfl) ?_
    refine va_get (D := D) (ci := 11) (v := .ref nme) (C := RX11) (T := TX11) (N := 5) hx hb hts in_X11 hown hK hP 0 rfl rfl 0 (by decide) (hts _ q_412) (fun _ h9 => h9) rfl dX11_count_201 ?_
    refine va_get (D := D) (ci := 4) (v := .ref nsh) (C := RX4) (T := TX4) (N := 13) hx hb hts in_X4 hown hK hP 1 rfl rfl 2 (by decide) (hts _ q_342) (fun _ h9 => h9) rfl dX11_count_204 ?_
    refine lv_iconst (v := 3) hx hb dX11_count_207 (by decide) ?_
    refine p_call (va_runV (As := [.int 3]) (rest := []) ⟨hx, hb, hml, hown, hts⟩ (c_X9_sizeOf l D cI cQ cM cR nsh nst nss nsp 3) (cwV 1 hts (gV q_579 q_580 q_581 q_71 q_582) rfl rfl rfl (by decide +kernel) ⟨Nat.le_of_ble_eq_true rfl, Nat.le_of_ble_eq_true rfl⟩) ⟨PP_blind, va_recv hK hP (ci := 9) (q0 := 4) rfl rfl, PP_of hK (hP.sub [4] rfl)⟩ rfl rfl hl.1 rfl (lv_room (Nat.le_of_ble_eq_true rfl)) dX11_count_208 ⟨Nat.le_of_ble_eq_true rfl, Nat.le_of_ble_eq_true rfl⟩) ?_
    exact W.iret hx hb hr (fun t ht hW => ⟨by first | rfl | decide, ht⟩) (fun q hq => absurd hq List.not_mem_nil) dX11_count_211
  · skip
    refine lv_iload_n hx hb dX11_count_0 rfl (lv_at hl 1 rfl) ?_
    refine lv_tableIn (tgt := 212) hx hb dX11_count_1 (by decide) (by decide) rfl (by decide) ?_
    refine lv_aload_n hx hb dX11_count_212 rfl (lv_at hl 0 rfl) ?_
    refine va_get (D := D) (ci := 11) (v := .ref nme) (C := RX11) (T := TX11) (N := 5) hx hb hts in_X11 hown hK hP 0 rfl rfl 0 (by decide) (hts _ q_412) (fun _ h9 => h9) rfl dX11_count_213 ?_
    refine va_get (D := D) (ci := 4) (v := .ref nsh) (C := RX4) (T := TX4) (N := 13) hx hb hts in_X4 hown hK hP 1 rfl rfl 2 (by decide) (hts _ q_342) (fun _ h9 => h9) rfl dX11_count_216 ?_
    refine lv_iconst (v := 2) hx hb dX11_count_219 (by decide) ?_
    refine p_call (va_runV (As := [.int 2]) (rest := []) ⟨hx, hb, hml, hown, hts⟩ (c_X9_sizeOf l D cI cQ cM cR nsh nst nss nsp 2) (cwV 1 hts (gV q_579 q_580 q_581 q_71 q_582) rfl rfl rfl (by decide +kernel) ⟨Nat.le_of_ble_eq_true rfl, Nat.le_of_ble_eq_true rfl⟩) ⟨PP_blind, va_recv hK hP (ci := 9) (q0 := 4) rfl rfl, PP_of hK (hP.sub [4] rfl)⟩ rfl rfl hl.1 rfl (lv_room (Nat.le_of_ble_eq_true rfl)) dX11_count_220 ⟨Nat.le_of_ble_eq_true rfl, Nat.le_of_ble_eq_true rfl⟩) ?_
    exact W.iret hx hb hr (fun t ht hW => ⟨by first | rfl | decide, ht⟩) (fun q hq => absurd hq List.not_mem_nil) dX11_count_223
  · skip
    refine lv_iload_n hx hb dX11_count_0 rfl (lv_at hl 1 rfl) ?_
    refine lv_tableIn (tgt := 224) hx hb dX11_count_1 (by decide) (by decide) rfl (by decide) ?_
    refine lv_aload_n hx hb dX11_count_224 rfl (lv_at hl 0 rfl) ?_
    refine va_get (D := D) (ci := 11) (v := .ref nme) (C := RX11) (T := TX11) (N := 5) hx hb hts in_X11 hown hK hP 0 rfl rfl 0 (by decide) (hts _ q_412) (fun _ h9 => h9) rfl dX11_count_225 ?_
    refine va_get (D := D) (ci := 4) (v := .ref nsh) (C := RX4) (T := TX4) (N := 13) hx hb hts in_X4 hown hK hP 1 rfl rfl 2 (by decide) (hts _ q_342) (fun _ h9 => h9) rfl dX11_count_228 ?_
    refine p_call (va_runV (As := []) (rest := []) ⟨hx, hb, hml, hown, hts⟩ (c_X9_busyCommittees l D cI cQ cM cR nsh nst nss nsp) (cwV 0 hts (gV q_928 q_929 q_930 q_71 q_931) rfl rfl rfl (by decide +kernel) ⟨Nat.le_of_ble_eq_true rfl, Nat.le_of_ble_eq_true rfl⟩) ⟨PP_blind, va_recv hK hP (ci := 9) (q0 := 4) rfl rfl, PP_of hK (hP.sub [4] rfl)⟩ rfl rfl hl.1 rfl (lv_room (Nat.le_of_ble_eq_true rfl)) dX11_count_231 ⟨Nat.le_of_ble_eq_true rfl, Nat.le_of_ble_eq_true rfl⟩) ?_
    exact W.iret hx hb hr (fun t ht hW => ⟨by first | rfl | decide, ht⟩) (fun q hq => absurd hq List.not_mem_nil) dX11_count_234
  · skip
    refine lv_iload_n hx hb dX11_count_0 rfl (lv_at hl 1 rfl) ?_
    refine lv_tableIn (tgt := 235) hx hb dX11_count_1 (by decide) (by decide) rfl (by decide) ?_
    refine lv_aload_n hx hb dX11_count_235 rfl (lv_at hl 0 rfl) ?_
    refine va_get (D := D) (ci := 11) (v := .ref nme) (C := RX11) (T := TX11) (N := 5) hx hb hts in_X11 hown hK hP 0 rfl rfl 0 (by decide) (hts _ q_412) (fun _ h9 => h9) rfl dX11_count_236 ?_
    refine p_call (va_runV (As := []) (rest := []) ⟨hx, hb, hml, hown, hts⟩ (c_X4_pendingQuestion l D cI cQ cM cR nme nho ndk nsh nmi nba nde nbu) (cwV 0 hts (gV q_525 q_526 q_527 q_66 q_528) rfl rfl rfl (by decide +kernel) ⟨Nat.le_of_ble_eq_true rfl, Nat.le_of_ble_eq_true rfl⟩) ⟨PP_blind, va_recv hK hP (ci := 4) (q0 := 1) rfl rfl, PP_of hK (hP.sub [1] rfl)⟩ rfl rfl hl.1 rfl (lv_room (Nat.le_of_ble_eq_true rfl)) dX11_count_239 ⟨Nat.le_of_ble_eq_true rfl, Nat.le_of_ble_eq_true rfl⟩) ?_
    refine lv_ifnonnullN hx hb dX11_count_242 ?_
    refine lv_bipush (v := (-5)) hx hb dX11_count_245 (by decide) ?_
    refine lv_goto (tgt := 260) hx hb dX11_count_247 (by decide) ?_
    exact W.iret hx hb hr (fun t ht hW => ⟨by first | rfl | decide, ht⟩) (fun q hq => absurd hq List.not_mem_nil) dX11_count_260
  · skip
    refine lv_iload_n hx hb dX11_count_0 rfl (lv_at hl 1 rfl) ?_
    refine lv_tableIn (tgt := 261) hx hb dX11_count_1 (by decide) (by decide) rfl (by decide) ?_
    refine lv_aload_n hx hb dX11_count_261 rfl (lv_at hl 0 rfl) ?_
    refine va_get (D := D) (ci := 11) (v := .ref nme) (C := RX11) (T := TX11) (N := 5) hx hb hts in_X11 hown hK hP 0 rfl rfl 0 (by decide) (hts _ q_412) (fun _ h9 => h9) rfl dX11_count_262 ?_
    refine p_call (va_runV (As := []) (rest := []) ⟨hx, hb, hml, hown, hts⟩ (c_X4_pendingQuestion l D cI cQ cM cR nme nho ndk nsh nmi nba nde nbu) (cwV 0 hts (gV q_525 q_526 q_527 q_66 q_528) rfl rfl rfl (by decide +kernel) ⟨Nat.le_of_ble_eq_true rfl, Nat.le_of_ble_eq_true rfl⟩) ⟨PP_blind, va_recv hK hP (ci := 4) (q0 := 1) rfl rfl, PP_of hK (hP.sub [1] rfl)⟩ rfl rfl hl.1 rfl (lv_room (Nat.le_of_ble_eq_true rfl)) dX11_count_265 ⟨Nat.le_of_ble_eq_true rfl, Nat.le_of_ble_eq_true rfl⟩) ?_
    refine lv_ifnullN (tgt := 288) hx hb dX11_count_268 (by decide) ?_
    refine lv_iconst (v := 0) hx hb dX11_count_288 (by decide) ?_
    refine p_call (va_runS (As := [.int 0]) (rest := []) ⟨hx, hb, hml, hown, hts⟩ (c_X11_bit l D cI cQ cM cR 0) (va_cwS 1 hts (gS q_456 q_457 q_65 q_458) rfl rfl rfl (by decide +kernel) ⟨Nat.le_of_ble_eq_true rfl, Nat.le_of_ble_eq_true rfl⟩) ⟨PP_blind, PP_of hK (hP.sub [] rfl)⟩ rfl rfl hl.1 rfl (lv_room (Nat.le_of_ble_eq_true rfl)) dX11_count_289 ⟨Nat.le_of_ble_eq_true rfl, Nat.le_of_ble_eq_true rfl⟩) ?_
    refine lv_cst (v := 0) (by decide) ?_
    exact W.iret hx hb hr (fun t ht hW => ⟨by first | rfl | decide, ht⟩) (fun q hq => absurd hq List.not_mem_nil) dX11_count_292
  · skip
    refine lv_iload_n hx hb dX11_count_0 rfl (lv_at hl 1 rfl) ?_
    refine lv_tableIn (tgt := 293) hx hb dX11_count_1 (by decide) (by decide) rfl (by decide) ?_
    refine lv_aload_n hx hb dX11_count_293 rfl (lv_at hl 0 rfl) ?_
    refine va_get (D := D) (ci := 11) (v := .ref nme) (C := RX11) (T := TX11) (N := 5) hx hb hts in_X11 hown hK hP 0 rfl rfl 0 (by decide) (hts _ q_412) (fun _ h9 => h9) rfl dX11_count_294 ?_
    refine va_get (D := D) (ci := 4) (v := .int 0) (C := RX4) (T := TX4) (N := 13) hx hb hts in_X4 hown hK hP 1 rfl rfl 10 (by decide) (hts _ q_358) (fun _ h9 => h9) rfl dX11_count_297 ?_
    exact W.iret hx hb hr (fun t ht hW => ⟨by first | rfl | decide, ht⟩) (fun q hq => absurd hq List.not_mem_nil) dX11_count_300
  · skip
    refine lv_iload_n hx hb dX11_count_0 rfl (lv_at hl 1 rfl) ?_
    refine lv_tableIn (tgt := 301) hx hb dX11_count_1 (by decide) (by decide) rfl (by decide) ?_
    refine lv_aload_n hx hb dX11_count_301 rfl (lv_at hl 0 rfl) ?_
    refine va_get (D := D) (ci := 11) (v := .ref nme) (C := RX11) (T := TX11) (N := 5) hx hb hts in_X11 hown hK hP 0 rfl rfl 0 (by decide) (hts _ q_412) (fun _ h9 => h9) rfl dX11_count_302 ?_
    refine va_get (D := D) (ci := 4) (v := .ref nba) (C := RX4) (T := TX4) (N := 13) hx hb hts in_X4 hown hK hP 1 rfl rfl 4 (by decide) (hts _ q_346) (fun _ h9 => h9) rfl dX11_count_305 ?_
    refine va_get (D := D) (ci := 0) (v := .int 0) (C := RX0) (T := TX0) (N := 13) hx hb hts in_X0 hown hK hP 5 rfl rfl 1 (by decide) (hts _ q_267) (fun _ h9 => h9) rfl dX11_count_308 ?_
    exact W.iret hx hb hr (fun t ht hW => ⟨by first | rfl | decide, ht⟩) (fun q hq => absurd hq List.not_mem_nil) dX11_count_311
  · skip
    refine lv_iload_n hx hb dX11_count_0 rfl (lv_at hl 1 rfl) ?_
    refine lv_tableIn (tgt := 312) hx hb dX11_count_1 (by decide) (by decide) rfl (by decide) ?_
    refine lv_aload_n hx hb dX11_count_312 rfl (lv_at hl 0 rfl) ?_
    refine va_get (D := D) (ci := 11) (v := .ref nme) (C := RX11) (T := TX11) (N := 5) hx hb hts in_X11 hown hK hP 0 rfl rfl 0 (by decide) (hts _ q_412) (fun _ h9 => h9) rfl dX11_count_313 ?_
    refine va_get (D := D) (ci := 4) (v := .ref nba) (C := RX4) (T := TX4) (N := 13) hx hb hts in_X4 hown hK hP 1 rfl rfl 4 (by decide) (hts _ q_346) (fun _ h9 => h9) rfl dX11_count_316 ?_
    refine va_get (D := D) (ci := 0) (v := .int 0) (C := RX0) (T := TX0) (N := 13) hx hb hts in_X0 hown hK hP 5 rfl rfl 0 (by decide) (hts _ q_265) (fun _ h9 => h9) rfl dX11_count_319 ?_
    refine lv_aload_n hx hb dX11_count_322 rfl (lv_at hl 0 rfl) ?_
    refine va_get (D := D) (ci := 11) (v := .ref nme) (C := RX11) (T := TX11) (N := 5) hx hb hts in_X11 hown hK hP 0 rfl rfl 0 (by decide) (hts _ q_412) (fun _ h9 => h9) rfl dX11_count_323 ?_
    refine va_get (D := D) (ci := 4) (v := .ref nba) (C := RX4) (T := TX4) (N := 13) hx hb hts in_X4 hown hK hP 1 rfl rfl 4 (by decide) (hts _ q_346) (fun _ h9 => h9) rfl dX11_count_326 ?_
    refine va_get (D := D) (ci := 0) (v := .int 0) (C := RX0) (T := TX0) (N := 13) hx hb hts in_X0 hown hK hP 5 rfl rfl 1 (by decide) (hts _ q_267) (fun _ h9 => h9) rfl dX11_count_329 ?_
    refine lv_isub hx hb dX11_count_332 ?_
    refine lv_cst (v := 0) (by decide) ?_
    exact W.iret hx hb hr (fun t ht hW => ⟨by first | rfl | decide, ht⟩) (fun q hq => absurd hq List.not_mem_nil) dX11_count_333
  · skip
    refine lv_iload_n hx hb dX11_count_0 rfl (lv_at hl 1 rfl) ?_
    refine lv_tableIn (tgt := 334) hx hb dX11_count_1 (by decide) (by decide) rfl (by decide) ?_
    refine lv_aload_n hx hb dX11_count_334 rfl (lv_at hl 0 rfl) ?_
    refine va_get (D := D) (ci := 11) (v := .ref nme) (C := RX11) (T := TX11) (N := 5) hx hb hts in_X11 hown hK hP 0 rfl rfl 0 (by decide) (hts _ q_412) (fun _ h9 => h9) rfl dX11_count_335 ?_
    refine p_call (va_runV (As := []) (rest := []) ⟨hx, hb, hml, hown, hts⟩ (c_X4_height l D cI cQ cM cR nme nho ndk nsh nmi nba nde nbu) (cwV 0 hts (gV q_678 q_679 q_680 q_66 q_681) rfl rfl rfl (by decide +kernel) ⟨Nat.le_of_ble_eq_true rfl, Nat.le_of_ble_eq_true rfl⟩) ⟨PP_blind, va_recv hK hP (ci := 4) (q0 := 1) rfl rfl, PP_of hK (hP.sub [1] rfl)⟩ rfl rfl hl.1 rfl (lv_room (Nat.le_of_ble_eq_true rfl)) dX11_count_338 ⟨Nat.le_of_ble_eq_true rfl, Nat.le_of_ble_eq_true rfl⟩) ?_
    refine lv_aload_n hx hb dX11_count_341 rfl (lv_at hl 0 rfl) ?_
    refine va_get (D := D) (ci := 11) (v := .ref nme) (C := RX11) (T := TX11) (N := 5) hx hb hts in_X11 hown hK hP 0 rfl rfl 0 (by decide) (hts _ q_412) (fun _ h9 => h9) rfl dX11_count_342 ?_
    refine va_get (D := D) (ci := 4) (v := .ref nsh) (C := RX4) (T := TX4) (N := 13) hx hb hts in_X4 hown hK hP 1 rfl rfl 2 (by decide) (hts _ q_342) (fun _ h9 => h9) rfl dX11_count_345 ?_
    refine p_call (va_runV (As := []) (rest := [.int 0]) ⟨hx, hb, hml, hown, hts⟩ (c_X9_motions l D cI cQ cM cR nsh nst nss nsp) (cwV 0 hts (gV q_933 q_934 q_935 q_71 q_936) rfl rfl rfl (by decide +kernel) ⟨Nat.le_of_ble_eq_true rfl, Nat.le_of_ble_eq_true rfl⟩) ⟨PP_blind, va_recv hK hP (ci := 9) (q0 := 4) rfl rfl, PP_of hK (hP.sub [4] rfl)⟩ rfl rfl hl.1 rfl (lv_room (Nat.le_of_ble_eq_true rfl)) dX11_count_348 ⟨Nat.le_of_ble_eq_true rfl, Nat.le_of_ble_eq_true rfl⟩) ?_
    refine lv_iadd hx hb dX11_count_351 ?_
    refine lv_cst (v := 0) (by decide) ?_
    exact W.iret hx hb hr (fun t ht hW => ⟨by first | rfl | decide, ht⟩) (fun q hq => absurd hq List.not_mem_nil) dX11_count_352
  · skip
    refine lv_iload_n hx hb dX11_count_0 rfl (lv_at hl 1 rfl) ?_
    refine lv_tableIn (tgt := 353) hx hb dX11_count_1 (by decide) (by decide) rfl (by decide) ?_
    refine lv_aload_n hx hb dX11_count_353 rfl (lv_at hl 0 rfl) ?_
    refine va_get (D := D) (ci := 11) (v := .ref nme) (C := RX11) (T := TX11) (N := 5) hx hb hts in_X11 hown hK hP 0 rfl rfl 0 (by decide) (hts _ q_412) (fun _ h9 => h9) rfl dX11_count_354 ?_
    refine va_get (D := D) (ci := 4) (v := .int 0) (C := RX4) (T := TX4) (N := 13) hx hb hts in_X4 hown hK hP 1 rfl rfl 11 (by decide) (hts _ q_360) (fun _ h9 => h9) rfl dX11_count_357 ?_
    exact W.iret hx hb hr (fun t ht hW => ⟨by first | rfl | decide, ht⟩) (fun q hq => absurd hq List.not_mem_nil) dX11_count_360
  · skip
    refine lv_iload_n hx hb dX11_count_0 rfl (lv_at hl 1 rfl) ?_
    refine lv_tableIn (tgt := 361) hx hb dX11_count_1 (by decide) (by decide) rfl (by decide) ?_
    refine lv_aload_n hx hb dX11_count_361 rfl (lv_at hl 0 rfl) ?_
    refine va_get (D := D) (ci := 11) (v := .ref nme) (C := RX11) (T := TX11) (N := 5) hx hb hts in_X11 hown hK hP 0 rfl rfl 0 (by decide) (hts _ q_412) (fun _ h9 => h9) rfl dX11_count_362 ?_
    refine va_get (D := D) (ci := 4) (v := .int 0) (C := RX4) (T := TX4) (N := 13) hx hb hts in_X4 hown hK hP 1 rfl rfl 12 (by decide) (hts _ q_362) (fun _ h9 => h9) rfl dX11_count_365 ?_
    exact W.iret hx hb hr (fun t ht hW => ⟨by first | rfl | decide, ht⟩) (fun q hq => absurd hq List.not_mem_nil) dX11_count_368
theorem dX11_store_0 : decode cX11_store 0 = .ok (.iload_n 1, 1) := by decide +kernel
theorem dX11_store_1 : decode cX11_store 1 = .ok (.invokestatic 386, 3) := by decide +kernel
theorem dX11_store_4 : decode cX11_store 4 = .ok (.ifCond .eq 12, 3) := by decide +kernel
theorem dX11_store_7 : decode cX11_store 7 = .ok (.iload_n 2, 1) := by decide +kernel
theorem dX11_store_8 : decode cX11_store 8 = .ok (.ifCond .eq 10, 3) := by decide +kernel
theorem dX11_store_11 : decode cX11_store 11 = .ok (.iload_n 2, 1) := by decide +kernel
theorem dX11_store_12 : decode cX11_store 12 = .ok (.iconst 1, 1) := by decide +kernel
theorem dX11_store_13 : decode cX11_store 13 = .ok (.if_icmp .eq 5, 3) := by decide +kernel
theorem dX11_store_16 : decode cX11_store 16 = .ok (.iconst (-1), 1) := by decide +kernel
theorem dX11_store_17 : decode cX11_store 17 = .ok (.ireturn, 1) := by decide +kernel
theorem dX11_store_18 : decode cX11_store 18 = .ok (.iload_n 3, 1) := by decide +kernel
theorem dX11_store_19 : decode cX11_store 19 = .ok (.ifCond .eq 11, 3) := by decide +kernel
theorem dX11_store_22 : decode cX11_store 22 = .ok (.iload_n 3, 1) := by decide +kernel
theorem dX11_store_23 : decode cX11_store 23 = .ok (.iconst 1, 1) := by decide +kernel
theorem dX11_store_24 : decode cX11_store 24 = .ok (.if_icmp .eq 6, 3) := by decide +kernel
theorem dX11_store_27 : decode cX11_store 27 = .ok (.bipush (-2), 2) := by decide +kernel
theorem dX11_store_29 : decode cX11_store 29 = .ok (.ireturn, 1) := by decide +kernel
theorem dX11_store_30 : decode cX11_store 30 = .ok (.aload_n 0, 1) := by decide +kernel
theorem dX11_store_31 : decode cX11_store 31 = .ok (.getfield 12, 3) := by decide +kernel
theorem dX11_store_34 : decode cX11_store 34 = .ok (.getfield 216, 3) := by decide +kernel
theorem dX11_store_37 : decode cX11_store 37 = .ok (.getfield 334, 3) := by decide +kernel
theorem dX11_store_40 : decode cX11_store 40 = .ok (.ifCond .ne 6, 3) := by decide +kernel
theorem dX11_store_43 : decode cX11_store 43 = .ok (.bipush (-3), 2) := by decide +kernel
theorem dX11_store_45 : decode cX11_store 45 = .ok (.ireturn, 1) := by decide +kernel
set_option maxRecDepth 100000 in
theorem q_943 : (.code yX11_isRow cX11_isRow 1 (some .boolean)) ∈ lw_all := List.mem_filter.mpr ⟨List.mem_of_getElem? (i := 943) (rfl), by decide +kernel⟩
set_option maxRecDepth 100000 in
theorem q_941 : (.methodLink RX11 386 yX11_isRow) ∈ lw_all := List.mem_filter.mpr ⟨List.mem_of_getElem? (i := 941) (by decide +kernel), by decide +kernel⟩
set_option maxRecDepth 100000 in
theorem q_942 : (.static yX11_isRow) ∈ lw_all := List.mem_filter.mpr ⟨List.mem_of_getElem? (i := 942) (by decide +kernel), by decide +kernel⟩
set_option maxHeartbeats 4000000 in
set_option maxRecDepth 100000 in
theorem c_X11_store (l : Launch) (D : va_G) (cI cQ cM cR : ClassId) (x0 : Nat) (nme : Nat) (sme : Nat) (xr : Nat) (xs : Nat) (nho : Nat) (ndk : Nat) (nsh : Nat) (nmi : Nat) (nba : Nat) (nde : Nat) (nbu : Nat) (nby : Nat) (nbn : Nat) (p0 : Int32) (p1 : Int32) (p2 : Int32) : Met l yX11_store (ws_ yX11_store cX11_store 4 (some .int)) ({ frames := 1, cells := 0, slots := 0, locals := 20 }) (PP D cI cQ cM cR [.ref x0, .int p0, .int p1, .int p2] [(x0, .inr (11, [.ref nme, .ref sme, .int 0, .ref xr, .ref xs])), (nme, .inr (4, [.ref nho, .ref ndk, .ref nsh, .ref nmi, .ref nba, .ref nde, .ref nbu, .int 1, .int 0, .null, .int 0, .int 0, .int 0])), (nba, .inr (0, [.int 0, .int 0, .int 0, .ref nby, .ref nbn, .int 0, .int 0, .int 0, .int 0, .int 0, .int 99, .int 0, .int 0]))]) (QP (some (.int (sp_store p0 p1 p2)))) 0 0 (fun _ => False) := by
  refine Met.ofW (cc := cX11_store) (maxL := 4) (ret := (some .int)) (by decide) rfl ?_
  intro p e s m args below meth c s₁ B hml hv
  obtain ⟨rfl, hP, hK⟩ := hv
  have hx := B.exec
  have hb := B.bytes
  have hr := B.returns
  have hts : ∀ w ∈ lw_all, w.before _ s = true := fun w h => atoms_spec (ws := (ws_ yX11_store cX11_store 4 (some .int))) B.pre w (List.mem_cons_of_mem _ h)
  have hown : s.vm.findClass RX11 = some m.cls := findClass_of_methodNamed B.named
  have hlocks := B.notSynchronized
  have hP : va_P D vwCl [(x0, .inr (11, [.ref nme, .ref sme, .int 0, .ref xr, .ref xs])), (nme, .inr (4, [.ref nho, .ref ndk, .ref nsh, .ref nmi, .ref nba, .ref nde, .ref nbu, .int 1, .int 0, .null, .int 0, .int 0, .int 0])), (nba, .inr (0, [.int 0, .int 0, .int 0, .ref nby, .ref nbn, .int 0, .int 0, .int 0, .int 0, .int 0, .int 99, .int 0, .int 0]))] s.heap := hP
  have hl := lv_entry ([.ref x0, .int p0, .int p1, .int p2]) (n := 4) (Nat.le_of_ble_eq_true rfl)
  rw [lg_entry_eq]
  generalize (lg_sl ([.ref x0, .int p0, .int p1, .int p2]) ++ List.replicate (4 - (lg_sl ([.ref x0, .int p0, .int p1, .int p2])).length) Slot.unset).toArray = ls at hl ⊢
  have hl : lv_has ls 4 [(0, .ref x0), (1, .int p0), (2, .int p1), (3, .int p2)] := hl
  refine lv_iload_n hx hb dX11_store_0 rfl (lv_at hl 1 rfl) ?_
  refine p_call (va_runS (As := [.int p0]) (rest := []) ⟨hx, hb, hml, hown, hts⟩ (c_X11_isRow l D cI cQ cM cR p0) (va_cwS 1 hts (gS q_941 q_942 q_65 q_943) rfl rfl rfl (by decide +kernel) ⟨Nat.le_of_ble_eq_true rfl, Nat.le_of_ble_eq_true rfl⟩) ⟨PP_blind, PP_of hK (hP.sub [] rfl)⟩ rfl rfl hl.1 rfl (lv_room (Nat.le_of_ble_eq_true rfl)) dX11_store_1 ⟨Nat.le_of_ble_eq_true rfl, Nat.le_of_ble_eq_true rfl⟩) ?_
  refine lv_if_eq (tgt := 16) hx hb dX11_store_4 (by decide) (fun c_1 => ?_) (fun c_1 => ?_)
  · refine lv_iconst (v := (-1)) hx hb dX11_store_16 (by decide) ?_
    exact W.iret hx hb hr (fun t ht hW => ⟨by first | rfl | (simp only [sp_store, c_1, ↓reduceIte, not_true_eq_false, not_false_eq_true, and_self]; done) | (simp only [sp_store, c_1, ↓reduceIte, not_true_eq_false, not_false_eq_true, and_self]; rfl) | (simp [sp_store, c_1]; done) | (simp_all [sp_store]; done), ht⟩) (fun q hq => absurd hq List.not_mem_nil) dX11_store_17
  · refine lv_iload_n hx hb dX11_store_7 rfl (lv_at hl 2 rfl) ?_
    refine lv_if_eq (tgt := 18) hx hb dX11_store_8 (by decide) (fun c_2 => ?_) (fun c_2 => ?_)
    · refine lv_iload_n hx hb dX11_store_18 rfl (lv_at hl 3 rfl) ?_
      refine lv_if_eq (tgt := 30) hx hb dX11_store_19 (by decide) (fun c_3 => ?_) (fun c_3 => ?_)
      · refine lv_aload_n hx hb dX11_store_30 rfl (lv_at hl 0 rfl) ?_
        refine va_get (D := D) (ci := 11) (v := .ref nme) (C := RX11) (T := TX11) (N := 5) hx hb hts in_X11 hown hK hP 0 rfl rfl 0 (by decide) (hts _ q_412) (fun _ h9 => h9) rfl dX11_store_31 ?_
        refine va_get (D := D) (ci := 4) (v := .ref nba) (C := RX4) (T := TX4) (N := 13) hx hb hts in_X4 hown hK hP 1 rfl rfl 4 (by decide) (hts _ q_346) (fun _ h9 => h9) rfl dX11_store_34 ?_
        refine va_get (D := D) (ci := 0) (v := .int 0) (C := RX0) (T := TX0) (N := 13) hx hb hts in_X0 hown hK hP 2 rfl rfl 0 (by decide) (hts _ q_265) (fun _ h9 => h9) rfl dX11_store_37 ?_
        refine lv_if_ne (tgt := 46) hx hb dX11_store_40 (by decide) (fun c9 => absurd (by decide) c9) (fun _ => ?_)
        refine lv_bipush (v := (-3)) hx hb dX11_store_43 (by decide) ?_
        exact W.iret hx hb hr (fun t ht hW => ⟨by first | rfl | (simp only [sp_store, c_1, c_2, c_3, ↓reduceIte, not_true_eq_false, not_false_eq_true, and_self]; done) | (simp only [sp_store, c_1, c_2, c_3, ↓reduceIte, not_true_eq_false, not_false_eq_true, and_self]; rfl) | (simp [sp_store, c_1, c_2, c_3]; done) | (simp_all [sp_store]; done), ht⟩) (fun q hq => absurd hq List.not_mem_nil) dX11_store_45
      · refine lv_iload_n hx hb dX11_store_22 rfl (lv_at hl 3 rfl) ?_
        refine lv_iconst (v := 1) hx hb dX11_store_23 (by decide) ?_
        refine lv_icmp_eq (tgt := 30) hx hb dX11_store_24 (by decide) (fun c_4 => ?_) (fun c_4 => ?_)
        · refine lv_aload_n hx hb dX11_store_30 rfl (lv_at hl 0 rfl) ?_
          refine va_get (D := D) (ci := 11) (v := .ref nme) (C := RX11) (T := TX11) (N := 5) hx hb hts in_X11 hown hK hP 0 rfl rfl 0 (by decide) (hts _ q_412) (fun _ h9 => h9) rfl dX11_store_31 ?_
          refine va_get (D := D) (ci := 4) (v := .ref nba) (C := RX4) (T := TX4) (N := 13) hx hb hts in_X4 hown hK hP 1 rfl rfl 4 (by decide) (hts _ q_346) (fun _ h9 => h9) rfl dX11_store_34 ?_
          refine va_get (D := D) (ci := 0) (v := .int 0) (C := RX0) (T := TX0) (N := 13) hx hb hts in_X0 hown hK hP 2 rfl rfl 0 (by decide) (hts _ q_265) (fun _ h9 => h9) rfl dX11_store_37 ?_
          refine lv_if_ne (tgt := 46) hx hb dX11_store_40 (by decide) (fun c9 => absurd (by decide) c9) (fun _ => ?_)
          refine lv_bipush (v := (-3)) hx hb dX11_store_43 (by decide) ?_
          exact W.iret hx hb hr (fun t ht hW => ⟨by first | rfl | (simp only [sp_store, c_1, c_2, c_3, c_4, ↓reduceIte, not_true_eq_false, not_false_eq_true, and_self]; done) | (simp only [sp_store, c_1, c_2, c_3, c_4, ↓reduceIte, not_true_eq_false, not_false_eq_true, and_self]; rfl) | (simp [sp_store, c_1, c_2, c_3, c_4]; done) | (simp_all [sp_store]; done), ht⟩) (fun q hq => absurd hq List.not_mem_nil) dX11_store_45
        · refine lv_bipush (v := (-2)) hx hb dX11_store_27 (by decide) ?_
          exact W.iret hx hb hr (fun t ht hW => ⟨by first | rfl | (simp only [sp_store, c_1, c_2, c_3, c_4, ↓reduceIte, not_true_eq_false, not_false_eq_true, and_self]; done) | (simp only [sp_store, c_1, c_2, c_3, c_4, ↓reduceIte, not_true_eq_false, not_false_eq_true, and_self]; rfl) | (simp [sp_store, c_1, c_2, c_3, c_4]; done) | (simp_all [sp_store]; done), ht⟩) (fun q hq => absurd hq List.not_mem_nil) dX11_store_29
    · refine lv_iload_n hx hb dX11_store_11 rfl (lv_at hl 2 rfl) ?_
      refine lv_iconst (v := 1) hx hb dX11_store_12 (by decide) ?_
      refine lv_icmp_eq (tgt := 18) hx hb dX11_store_13 (by decide) (fun c_5 => ?_) (fun c_5 => ?_)
      · refine lv_iload_n hx hb dX11_store_18 rfl (lv_at hl 3 rfl) ?_
        refine lv_if_eq (tgt := 30) hx hb dX11_store_19 (by decide) (fun c_6 => ?_) (fun c_6 => ?_)
        · refine lv_aload_n hx hb dX11_store_30 rfl (lv_at hl 0 rfl) ?_
          refine va_get (D := D) (ci := 11) (v := .ref nme) (C := RX11) (T := TX11) (N := 5) hx hb hts in_X11 hown hK hP 0 rfl rfl 0 (by decide) (hts _ q_412) (fun _ h9 => h9) rfl dX11_store_31 ?_
          refine va_get (D := D) (ci := 4) (v := .ref nba) (C := RX4) (T := TX4) (N := 13) hx hb hts in_X4 hown hK hP 1 rfl rfl 4 (by decide) (hts _ q_346) (fun _ h9 => h9) rfl dX11_store_34 ?_
          refine va_get (D := D) (ci := 0) (v := .int 0) (C := RX0) (T := TX0) (N := 13) hx hb hts in_X0 hown hK hP 2 rfl rfl 0 (by decide) (hts _ q_265) (fun _ h9 => h9) rfl dX11_store_37 ?_
          refine lv_if_ne (tgt := 46) hx hb dX11_store_40 (by decide) (fun c9 => absurd (by decide) c9) (fun _ => ?_)
          refine lv_bipush (v := (-3)) hx hb dX11_store_43 (by decide) ?_
          exact W.iret hx hb hr (fun t ht hW => ⟨by first | rfl | (simp only [sp_store, c_1, c_2, c_5, c_6, ↓reduceIte, not_true_eq_false, not_false_eq_true, and_self]; done) | (simp only [sp_store, c_1, c_2, c_5, c_6, ↓reduceIte, not_true_eq_false, not_false_eq_true, and_self]; rfl) | (simp [sp_store, c_1, c_2, c_5, c_6]; done) | (simp_all [sp_store]; done), ht⟩) (fun q hq => absurd hq List.not_mem_nil) dX11_store_45
        · refine lv_iload_n hx hb dX11_store_22 rfl (lv_at hl 3 rfl) ?_
          refine lv_iconst (v := 1) hx hb dX11_store_23 (by decide) ?_
          refine lv_icmp_eq (tgt := 30) hx hb dX11_store_24 (by decide) (fun c_7 => ?_) (fun c_7 => ?_)
          · refine lv_aload_n hx hb dX11_store_30 rfl (lv_at hl 0 rfl) ?_
            refine va_get (D := D) (ci := 11) (v := .ref nme) (C := RX11) (T := TX11) (N := 5) hx hb hts in_X11 hown hK hP 0 rfl rfl 0 (by decide) (hts _ q_412) (fun _ h9 => h9) rfl dX11_store_31 ?_
            refine va_get (D := D) (ci := 4) (v := .ref nba) (C := RX4) (T := TX4) (N := 13) hx hb hts in_X4 hown hK hP 1 rfl rfl 4 (by decide) (hts _ q_346) (fun _ h9 => h9) rfl dX11_store_34 ?_
            refine va_get (D := D) (ci := 0) (v := .int 0) (C := RX0) (T := TX0) (N := 13) hx hb hts in_X0 hown hK hP 2 rfl rfl 0 (by decide) (hts _ q_265) (fun _ h9 => h9) rfl dX11_store_37 ?_
            refine lv_if_ne (tgt := 46) hx hb dX11_store_40 (by decide) (fun c9 => absurd (by decide) c9) (fun _ => ?_)
            refine lv_bipush (v := (-3)) hx hb dX11_store_43 (by decide) ?_
            exact W.iret hx hb hr (fun t ht hW => ⟨by first | rfl | (simp only [sp_store, c_1, c_2, c_5, c_6, c_7, ↓reduceIte, not_true_eq_false, not_false_eq_true, and_self]; done) | (simp only [sp_store, c_1, c_2, c_5, c_6, c_7, ↓reduceIte, not_true_eq_false, not_false_eq_true, and_self]; rfl) | (simp [sp_store, c_1, c_2, c_5, c_6, c_7]; done) | (simp_all [sp_store]; done), ht⟩) (fun q hq => absurd hq List.not_mem_nil) dX11_store_45
          · refine lv_bipush (v := (-2)) hx hb dX11_store_27 (by decide) ?_
            exact W.iret hx hb hr (fun t ht hW => ⟨by first | rfl | (simp only [sp_store, c_1, c_2, c_5, c_6, c_7, ↓reduceIte, not_true_eq_false, not_false_eq_true, and_self]; done) | (simp only [sp_store, c_1, c_2, c_5, c_6, c_7, ↓reduceIte, not_true_eq_false, not_false_eq_true, and_self]; rfl) | (simp [sp_store, c_1, c_2, c_5, c_6, c_7]; done) | (simp_all [sp_store]; done), ht⟩) (fun q hq => absurd hq List.not_mem_nil) dX11_store_29
      · refine lv_iconst (v := (-1)) hx hb dX11_store_16 (by decide) ?_
        exact W.iret hx hb hr (fun t ht hW => ⟨by first | rfl | (simp only [sp_store, c_1, c_2, c_5, ↓reduceIte, not_true_eq_false, not_false_eq_true, and_self]; done) | (simp only [sp_store, c_1, c_2, c_5, ↓reduceIte, not_true_eq_false, not_false_eq_true, and_self]; rfl) | (simp [sp_store, c_1, c_2, c_5]; done) | (simp_all [sp_store]; done), ht⟩) (fun q hq => absurd hq List.not_mem_nil) dX11_store_17
theorem dX11_copy_0 : decode cX11_copy 0 = .ok (.iload_n 1, 1) := by decide +kernel
theorem dX11_copy_1 : decode cX11_copy 1 = .ok (.invokestatic 386, 3) := by decide +kernel
theorem dX11_copy_4 : decode cX11_copy 4 = .ok (.ifCond .eq 10, 3) := by decide +kernel
theorem dX11_copy_7 : decode cX11_copy 7 = .ok (.iload_n 2, 1) := by decide +kernel
theorem dX11_copy_8 : decode cX11_copy 8 = .ok (.invokestatic 386, 3) := by decide +kernel
theorem dX11_copy_11 : decode cX11_copy 11 = .ok (.ifCond .ne 5, 3) := by decide +kernel
theorem dX11_copy_14 : decode cX11_copy 14 = .ok (.iconst (-1), 1) := by decide +kernel
theorem dX11_copy_15 : decode cX11_copy 15 = .ok (.ireturn, 1) := by decide +kernel
theorem dX11_copy_16 : decode cX11_copy 16 = .ok (.aload_n 0, 1) := by decide +kernel
theorem dX11_copy_17 : decode cX11_copy 17 = .ok (.getfield 23, 3) := by decide +kernel
theorem dX11_copy_20 : decode cX11_copy 20 = .ok (.iload_n 1, 1) := by decide +kernel
theorem dX11_copy_21 : decode cX11_copy 21 = .ok (.aaload, 1) := by decide +kernel
theorem dX11_copy_22 : decode cX11_copy 22 = .ok (.getfield 393, 3) := by decide +kernel
theorem dX11_copy_25 : decode cX11_copy 25 = .ok (.ifCond .eq 15, 3) := by decide +kernel
theorem dX11_copy_40 : decode cX11_copy 40 = .ok (.bipush (-3), 2) := by decide +kernel
theorem dX11_copy_42 : decode cX11_copy 42 = .ok (.ireturn, 1) := by decide +kernel
set_option maxRecDepth 100000 in
theorem q_415 : (.fieldLink RX11 23 "AssemblyChair" "rows" "[LAssemblyChair$Row;") ∈ lw_all := List.mem_filter.mpr ⟨List.mem_of_getElem? (i := 415) (by decide +kernel), by decide +kernel⟩
set_option maxRecDepth 100000 in
theorem q_400 : (.fieldLink RX11 393 "AssemblyChair$Row" "length" "I") ∈ lw_all := List.mem_filter.mpr ⟨List.mem_of_getElem? (i := 400) (by decide +kernel), by decide +kernel⟩
set_option maxHeartbeats 4000000 in
set_option maxRecDepth 100000 in
theorem c_X11_copy (l : Launch) (D : va_G) (cI cQ cM cR : ClassId) (x0 : Nat) (nme : Nat) (sme : Nat) (xr : Nat) (xs : Nat) (r0 : Nat) (r1 : Nat) (r2 : Nat) (r3 : Nat) (v0 : Nat) (v1 : Nat) (v2 : Nat) (v3 : Nat) (p0 : Int32) (p1 : Int32) (p2 : Int32) : Met l yX11_copy (ws_ yX11_copy cX11_copy 4 (some .int)) ({ frames := 1, cells := 0, slots := 0, locals := 20 }) (PP D cI cQ cM cR [.ref x0, .int p0, .int p1, .int p2] [(x0, .inr (11, [.ref nme, .ref sme, .int 0, .ref xr, .ref xs])), (xr, .inl (cR, 4, .inr (.inr (.inr (.inr (va_up (va_up (va_up (va_up (fun _ => none) 0 (some r0)) 1 (some r1)) 2 (some r2)) 3 (some r3))))))), (r0, .inr (8, [.int 0, .int 0, .ref v0])), (r1, .inr (8, [.int 0, .int 0, .ref v1])), (r2, .inr (8, [.int 0, .int 0, .ref v2])), (r3, .inr (8, [.int 0, .int 0, .ref v3]))]) (QP (some (.int (sp_two p0 p1)))) 0 0 (fun _ => False) := by
  refine Met.ofW (cc := cX11_copy) (maxL := 4) (ret := (some .int)) (by decide) rfl ?_
  intro p e s m args below meth c s₁ B hml hv
  obtain ⟨rfl, hP, hK⟩ := hv
  have hx := B.exec
  have hb := B.bytes
  have hr := B.returns
  have hts : ∀ w ∈ lw_all, w.before _ s = true := fun w h => atoms_spec (ws := (ws_ yX11_copy cX11_copy 4 (some .int))) B.pre w (List.mem_cons_of_mem _ h)
  have hown : s.vm.findClass RX11 = some m.cls := findClass_of_methodNamed B.named
  have hlocks := B.notSynchronized
  have hP : va_P D vwCl [(x0, .inr (11, [.ref nme, .ref sme, .int 0, .ref xr, .ref xs])), (xr, .inl (cR, 4, .inr (.inr (.inr (.inr (va_up (va_up (va_up (va_up (fun _ => none) 0 (some r0)) 1 (some r1)) 2 (some r2)) 3 (some r3))))))), (r0, .inr (8, [.int 0, .int 0, .ref v0])), (r1, .inr (8, [.int 0, .int 0, .ref v1])), (r2, .inr (8, [.int 0, .int 0, .ref v2])), (r3, .inr (8, [.int 0, .int 0, .ref v3]))] s.heap := hP
  have hl := lv_entry ([.ref x0, .int p0, .int p1, .int p2]) (n := 4) (Nat.le_of_ble_eq_true rfl)
  rw [lg_entry_eq]
  generalize (lg_sl ([.ref x0, .int p0, .int p1, .int p2]) ++ List.replicate (4 - (lg_sl ([.ref x0, .int p0, .int p1, .int p2])).length) Slot.unset).toArray = ls at hl ⊢
  have hl : lv_has ls 4 [(0, .ref x0), (1, .int p0), (2, .int p1), (3, .int p2)] := hl
  rcases row_split p0 with h | h | rfl | rfl | rfl | rfl
  · skip
    refine lv_iload_n hx hb dX11_copy_0 rfl (lv_at hl 1 rfl) ?_
    refine p_call (va_runS (As := [.int p0]) (rest := []) ⟨hx, hb, hml, hown, hts⟩ (c_X11_isRow l D cI cQ cM cR p0) (va_cwS 1 hts (gS q_941 q_942 q_65 q_943) rfl rfl rfl (by decide +kernel) ⟨Nat.le_of_ble_eq_true rfl, Nat.le_of_ble_eq_true rfl⟩) ⟨PP_blind, PP_of hK (hP.sub [] rfl)⟩ rfl rfl hl.1 rfl (lv_room (Nat.le_of_ble_eq_true rfl)) dX11_copy_1 ⟨Nat.le_of_ble_eq_true rfl, Nat.le_of_ble_eq_true rfl⟩) ?_
    refine lv_cst (v := 0) (rowi_lt h) ?_
    refine lv_if_eq (tgt := 14) hx hb dX11_copy_4 (by decide) (fun _ => ?_) (fun c9 => absurd (by decide) c9)
    refine lv_iconst (v := (-1)) hx hb dX11_copy_14 (by decide) ?_
    exact W.iret hx hb hr (fun t ht hW => ⟨by rw [sp_two, if_pos (rowi_lt h)], ht⟩) (fun q hq => absurd hq List.not_mem_nil) dX11_copy_15
  · skip
    refine lv_iload_n hx hb dX11_copy_0 rfl (lv_at hl 1 rfl) ?_
    refine p_call (va_runS (As := [.int p0]) (rest := []) ⟨hx, hb, hml, hown, hts⟩ (c_X11_isRow l D cI cQ cM cR p0) (va_cwS 1 hts (gS q_941 q_942 q_65 q_943) rfl rfl rfl (by decide +kernel) ⟨Nat.le_of_ble_eq_true rfl, Nat.le_of_ble_eq_true rfl⟩) ⟨PP_blind, PP_of hK (hP.sub [] rfl)⟩ rfl rfl hl.1 rfl (lv_room (Nat.le_of_ble_eq_true rfl)) dX11_copy_1 ⟨Nat.le_of_ble_eq_true rfl, Nat.le_of_ble_eq_true rfl⟩) ?_
    refine lv_cst (v := 0) (rowi_ge h) ?_
    refine lv_if_eq (tgt := 14) hx hb dX11_copy_4 (by decide) (fun _ => ?_) (fun c9 => absurd (by decide) c9)
    refine lv_iconst (v := (-1)) hx hb dX11_copy_14 (by decide) ?_
    exact W.iret hx hb hr (fun t ht hW => ⟨by rw [sp_two, if_pos (rowi_ge h)], ht⟩) (fun q hq => absurd hq List.not_mem_nil) dX11_copy_15
  · skip
    refine lv_iload_n hx hb dX11_copy_0 rfl (lv_at hl 1 rfl) ?_
    refine p_call (va_runS (As := [.int 0]) (rest := []) ⟨hx, hb, hml, hown, hts⟩ (c_X11_isRow l D cI cQ cM cR 0) (va_cwS 1 hts (gS q_941 q_942 q_65 q_943) rfl rfl rfl (by decide +kernel) ⟨Nat.le_of_ble_eq_true rfl, Nat.le_of_ble_eq_true rfl⟩) ⟨PP_blind, PP_of hK (hP.sub [] rfl)⟩ rfl rfl hl.1 rfl (lv_room (Nat.le_of_ble_eq_true rfl)) dX11_copy_1 ⟨Nat.le_of_ble_eq_true rfl, Nat.le_of_ble_eq_true rfl⟩) ?_
    refine lv_cst (v := 1) (by decide) ?_
    refine lv_if_eq (tgt := 14) hx hb dX11_copy_4 (by decide) (fun c9 => absurd c9 (by decide)) (fun _ => ?_)
    refine lv_iload_n hx hb dX11_copy_7 rfl (lv_at hl 2 rfl) ?_
    refine p_call (va_runS (As := [.int p1]) (rest := []) ⟨hx, hb, hml, hown, hts⟩ (c_X11_isRow l D cI cQ cM cR p1) (va_cwS 1 hts (gS q_941 q_942 q_65 q_943) rfl rfl rfl (by decide +kernel) ⟨Nat.le_of_ble_eq_true rfl, Nat.le_of_ble_eq_true rfl⟩) ⟨PP_blind, PP_of hK (hP.sub [] rfl)⟩ rfl rfl hl.1 rfl (lv_room (Nat.le_of_ble_eq_true rfl)) dX11_copy_8 ⟨Nat.le_of_ble_eq_true rfl, Nat.le_of_ble_eq_true rfl⟩) ?_
    refine lv_if_ne (tgt := 16) hx hb dX11_copy_11 (by decide) (fun c_1 => ?_) (fun c_1 => ?_)
    · refine lv_aload_n hx hb dX11_copy_16 rfl (lv_at hl 0 rfl) ?_
      refine va_get (D := D) (ci := 11) (v := .ref xr) (C := RX11) (T := TX11) (N := 5) hx hb hts in_X11 hown hK hP 0 rfl rfl 3 (by decide) (hts _ q_415) (fun _ h9 => h9) rfl dX11_copy_17 ?_
      refine lv_iload_n hx hb dX11_copy_20 rfl (lv_at hl 1 rfl) ?_
      refine va_aldq hx hb hK hP 1 3 rfl rfl (i := 0) (by unfold vp_in; decide) dX11_copy_21 ?_
      refine lv_vst (v := .ref r0) (by first | rfl | simp [va_rf, va_up]) ?_
      refine va_get (D := D) (ci := 8) (v := .int 0) (C := RX8) (T := TX8) (N := 3) hx hb hts in_X8 hown hK hP 2 rfl rfl 0 (by decide) (hts _ q_400) (fun _ h9 => h9) rfl dX11_copy_22 ?_
      refine lv_if_eq (tgt := 40) hx hb dX11_copy_25 (by decide) (fun _ => ?_) (fun c9 => absurd (by decide) c9)
      refine lv_bipush (v := (-3)) hx hb dX11_copy_40 (by decide) ?_
      exact W.iret hx hb hr (fun t ht hW => ⟨by first | rfl | decide | (simp only [sp_two, c_1, ↓reduceIte, not_true_eq_false, not_false_eq_true, and_self]; done) | (simp only [sp_two, c_1, ↓reduceIte, not_true_eq_false, not_false_eq_true, and_self]; rfl) | (simp [sp_two, c_1]; done) | (simp_all [sp_two]; done), ht⟩) (fun q hq => absurd hq List.not_mem_nil) dX11_copy_42
    · refine lv_iconst (v := (-1)) hx hb dX11_copy_14 (by decide) ?_
      exact W.iret hx hb hr (fun t ht hW => ⟨by first | rfl | decide | (simp only [sp_two, c_1, ↓reduceIte, not_true_eq_false, not_false_eq_true, and_self]; done) | (simp only [sp_two, c_1, ↓reduceIte, not_true_eq_false, not_false_eq_true, and_self]; rfl) | (simp [sp_two, c_1]; done) | (simp_all [sp_two]; done), ht⟩) (fun q hq => absurd hq List.not_mem_nil) dX11_copy_15
  · skip
    refine lv_iload_n hx hb dX11_copy_0 rfl (lv_at hl 1 rfl) ?_
    refine p_call (va_runS (As := [.int 1]) (rest := []) ⟨hx, hb, hml, hown, hts⟩ (c_X11_isRow l D cI cQ cM cR 1) (va_cwS 1 hts (gS q_941 q_942 q_65 q_943) rfl rfl rfl (by decide +kernel) ⟨Nat.le_of_ble_eq_true rfl, Nat.le_of_ble_eq_true rfl⟩) ⟨PP_blind, PP_of hK (hP.sub [] rfl)⟩ rfl rfl hl.1 rfl (lv_room (Nat.le_of_ble_eq_true rfl)) dX11_copy_1 ⟨Nat.le_of_ble_eq_true rfl, Nat.le_of_ble_eq_true rfl⟩) ?_
    refine lv_cst (v := 1) (by decide) ?_
    refine lv_if_eq (tgt := 14) hx hb dX11_copy_4 (by decide) (fun c9 => absurd c9 (by decide)) (fun _ => ?_)
    refine lv_iload_n hx hb dX11_copy_7 rfl (lv_at hl 2 rfl) ?_
    refine p_call (va_runS (As := [.int p1]) (rest := []) ⟨hx, hb, hml, hown, hts⟩ (c_X11_isRow l D cI cQ cM cR p1) (va_cwS 1 hts (gS q_941 q_942 q_65 q_943) rfl rfl rfl (by decide +kernel) ⟨Nat.le_of_ble_eq_true rfl, Nat.le_of_ble_eq_true rfl⟩) ⟨PP_blind, PP_of hK (hP.sub [] rfl)⟩ rfl rfl hl.1 rfl (lv_room (Nat.le_of_ble_eq_true rfl)) dX11_copy_8 ⟨Nat.le_of_ble_eq_true rfl, Nat.le_of_ble_eq_true rfl⟩) ?_
    refine lv_if_ne (tgt := 16) hx hb dX11_copy_11 (by decide) (fun c_1 => ?_) (fun c_1 => ?_)
    · refine lv_aload_n hx hb dX11_copy_16 rfl (lv_at hl 0 rfl) ?_
      refine va_get (D := D) (ci := 11) (v := .ref xr) (C := RX11) (T := TX11) (N := 5) hx hb hts in_X11 hown hK hP 0 rfl rfl 3 (by decide) (hts _ q_415) (fun _ h9 => h9) rfl dX11_copy_17 ?_
      refine lv_iload_n hx hb dX11_copy_20 rfl (lv_at hl 1 rfl) ?_
      refine va_aldq hx hb hK hP 1 3 rfl rfl (i := 1) (by unfold vp_in; decide) dX11_copy_21 ?_
      refine lv_vst (v := .ref r1) (by first | rfl | simp [va_rf, va_up]) ?_
      refine va_get (D := D) (ci := 8) (v := .int 0) (C := RX8) (T := TX8) (N := 3) hx hb hts in_X8 hown hK hP 3 rfl rfl 0 (by decide) (hts _ q_400) (fun _ h9 => h9) rfl dX11_copy_22 ?_
      refine lv_if_eq (tgt := 40) hx hb dX11_copy_25 (by decide) (fun _ => ?_) (fun c9 => absurd (by decide) c9)
      refine lv_bipush (v := (-3)) hx hb dX11_copy_40 (by decide) ?_
      exact W.iret hx hb hr (fun t ht hW => ⟨by first | rfl | decide | (simp only [sp_two, c_1, ↓reduceIte, not_true_eq_false, not_false_eq_true, and_self]; done) | (simp only [sp_two, c_1, ↓reduceIte, not_true_eq_false, not_false_eq_true, and_self]; rfl) | (simp [sp_two, c_1]; done) | (simp_all [sp_two]; done), ht⟩) (fun q hq => absurd hq List.not_mem_nil) dX11_copy_42
    · refine lv_iconst (v := (-1)) hx hb dX11_copy_14 (by decide) ?_
      exact W.iret hx hb hr (fun t ht hW => ⟨by first | rfl | decide | (simp only [sp_two, c_1, ↓reduceIte, not_true_eq_false, not_false_eq_true, and_self]; done) | (simp only [sp_two, c_1, ↓reduceIte, not_true_eq_false, not_false_eq_true, and_self]; rfl) | (simp [sp_two, c_1]; done) | (simp_all [sp_two]; done), ht⟩) (fun q hq => absurd hq List.not_mem_nil) dX11_copy_15
  · skip
    refine lv_iload_n hx hb dX11_copy_0 rfl (lv_at hl 1 rfl) ?_
    refine p_call (va_runS (As := [.int 2]) (rest := []) ⟨hx, hb, hml, hown, hts⟩ (c_X11_isRow l D cI cQ cM cR 2) (va_cwS 1 hts (gS q_941 q_942 q_65 q_943) rfl rfl rfl (by decide +kernel) ⟨Nat.le_of_ble_eq_true rfl, Nat.le_of_ble_eq_true rfl⟩) ⟨PP_blind, PP_of hK (hP.sub [] rfl)⟩ rfl rfl hl.1 rfl (lv_room (Nat.le_of_ble_eq_true rfl)) dX11_copy_1 ⟨Nat.le_of_ble_eq_true rfl, Nat.le_of_ble_eq_true rfl⟩) ?_
    refine lv_cst (v := 1) (by decide) ?_
    refine lv_if_eq (tgt := 14) hx hb dX11_copy_4 (by decide) (fun c9 => absurd c9 (by decide)) (fun _ => ?_)
    refine lv_iload_n hx hb dX11_copy_7 rfl (lv_at hl 2 rfl) ?_
    refine p_call (va_runS (As := [.int p1]) (rest := []) ⟨hx, hb, hml, hown, hts⟩ (c_X11_isRow l D cI cQ cM cR p1) (va_cwS 1 hts (gS q_941 q_942 q_65 q_943) rfl rfl rfl (by decide +kernel) ⟨Nat.le_of_ble_eq_true rfl, Nat.le_of_ble_eq_true rfl⟩) ⟨PP_blind, PP_of hK (hP.sub [] rfl)⟩ rfl rfl hl.1 rfl (lv_room (Nat.le_of_ble_eq_true rfl)) dX11_copy_8 ⟨Nat.le_of_ble_eq_true rfl, Nat.le_of_ble_eq_true rfl⟩) ?_
    refine lv_if_ne (tgt := 16) hx hb dX11_copy_11 (by decide) (fun c_1 => ?_) (fun c_1 => ?_)
    · refine lv_aload_n hx hb dX11_copy_16 rfl (lv_at hl 0 rfl) ?_
      refine va_get (D := D) (ci := 11) (v := .ref xr) (C := RX11) (T := TX11) (N := 5) hx hb hts in_X11 hown hK hP 0 rfl rfl 3 (by decide) (hts _ q_415) (fun _ h9 => h9) rfl dX11_copy_17 ?_
      refine lv_iload_n hx hb dX11_copy_20 rfl (lv_at hl 1 rfl) ?_
      refine va_aldq hx hb hK hP 1 3 rfl rfl (i := 2) (by unfold vp_in; decide) dX11_copy_21 ?_
      refine lv_vst (v := .ref r2) (by first | rfl | simp [va_rf, va_up]) ?_
      refine va_get (D := D) (ci := 8) (v := .int 0) (C := RX8) (T := TX8) (N := 3) hx hb hts in_X8 hown hK hP 4 rfl rfl 0 (by decide) (hts _ q_400) (fun _ h9 => h9) rfl dX11_copy_22 ?_
      refine lv_if_eq (tgt := 40) hx hb dX11_copy_25 (by decide) (fun _ => ?_) (fun c9 => absurd (by decide) c9)
      refine lv_bipush (v := (-3)) hx hb dX11_copy_40 (by decide) ?_
      exact W.iret hx hb hr (fun t ht hW => ⟨by first | rfl | decide | (simp only [sp_two, c_1, ↓reduceIte, not_true_eq_false, not_false_eq_true, and_self]; done) | (simp only [sp_two, c_1, ↓reduceIte, not_true_eq_false, not_false_eq_true, and_self]; rfl) | (simp [sp_two, c_1]; done) | (simp_all [sp_two]; done), ht⟩) (fun q hq => absurd hq List.not_mem_nil) dX11_copy_42
    · refine lv_iconst (v := (-1)) hx hb dX11_copy_14 (by decide) ?_
      exact W.iret hx hb hr (fun t ht hW => ⟨by first | rfl | decide | (simp only [sp_two, c_1, ↓reduceIte, not_true_eq_false, not_false_eq_true, and_self]; done) | (simp only [sp_two, c_1, ↓reduceIte, not_true_eq_false, not_false_eq_true, and_self]; rfl) | (simp [sp_two, c_1]; done) | (simp_all [sp_two]; done), ht⟩) (fun q hq => absurd hq List.not_mem_nil) dX11_copy_15
  · skip
    refine lv_iload_n hx hb dX11_copy_0 rfl (lv_at hl 1 rfl) ?_
    refine p_call (va_runS (As := [.int 3]) (rest := []) ⟨hx, hb, hml, hown, hts⟩ (c_X11_isRow l D cI cQ cM cR 3) (va_cwS 1 hts (gS q_941 q_942 q_65 q_943) rfl rfl rfl (by decide +kernel) ⟨Nat.le_of_ble_eq_true rfl, Nat.le_of_ble_eq_true rfl⟩) ⟨PP_blind, PP_of hK (hP.sub [] rfl)⟩ rfl rfl hl.1 rfl (lv_room (Nat.le_of_ble_eq_true rfl)) dX11_copy_1 ⟨Nat.le_of_ble_eq_true rfl, Nat.le_of_ble_eq_true rfl⟩) ?_
    refine lv_cst (v := 1) (by decide) ?_
    refine lv_if_eq (tgt := 14) hx hb dX11_copy_4 (by decide) (fun c9 => absurd c9 (by decide)) (fun _ => ?_)
    refine lv_iload_n hx hb dX11_copy_7 rfl (lv_at hl 2 rfl) ?_
    refine p_call (va_runS (As := [.int p1]) (rest := []) ⟨hx, hb, hml, hown, hts⟩ (c_X11_isRow l D cI cQ cM cR p1) (va_cwS 1 hts (gS q_941 q_942 q_65 q_943) rfl rfl rfl (by decide +kernel) ⟨Nat.le_of_ble_eq_true rfl, Nat.le_of_ble_eq_true rfl⟩) ⟨PP_blind, PP_of hK (hP.sub [] rfl)⟩ rfl rfl hl.1 rfl (lv_room (Nat.le_of_ble_eq_true rfl)) dX11_copy_8 ⟨Nat.le_of_ble_eq_true rfl, Nat.le_of_ble_eq_true rfl⟩) ?_
    refine lv_if_ne (tgt := 16) hx hb dX11_copy_11 (by decide) (fun c_1 => ?_) (fun c_1 => ?_)
    · refine lv_aload_n hx hb dX11_copy_16 rfl (lv_at hl 0 rfl) ?_
      refine va_get (D := D) (ci := 11) (v := .ref xr) (C := RX11) (T := TX11) (N := 5) hx hb hts in_X11 hown hK hP 0 rfl rfl 3 (by decide) (hts _ q_415) (fun _ h9 => h9) rfl dX11_copy_17 ?_
      refine lv_iload_n hx hb dX11_copy_20 rfl (lv_at hl 1 rfl) ?_
      refine va_aldq hx hb hK hP 1 3 rfl rfl (i := 3) (by unfold vp_in; decide) dX11_copy_21 ?_
      refine lv_vst (v := .ref r3) (by first | rfl | simp [va_rf, va_up]) ?_
      refine va_get (D := D) (ci := 8) (v := .int 0) (C := RX8) (T := TX8) (N := 3) hx hb hts in_X8 hown hK hP 5 rfl rfl 0 (by decide) (hts _ q_400) (fun _ h9 => h9) rfl dX11_copy_22 ?_
      refine lv_if_eq (tgt := 40) hx hb dX11_copy_25 (by decide) (fun _ => ?_) (fun c9 => absurd (by decide) c9)
      refine lv_bipush (v := (-3)) hx hb dX11_copy_40 (by decide) ?_
      exact W.iret hx hb hr (fun t ht hW => ⟨by first | rfl | decide | (simp only [sp_two, c_1, ↓reduceIte, not_true_eq_false, not_false_eq_true, and_self]; done) | (simp only [sp_two, c_1, ↓reduceIte, not_true_eq_false, not_false_eq_true, and_self]; rfl) | (simp [sp_two, c_1]; done) | (simp_all [sp_two]; done), ht⟩) (fun q hq => absurd hq List.not_mem_nil) dX11_copy_42
    · refine lv_iconst (v := (-1)) hx hb dX11_copy_14 (by decide) ?_
      exact W.iret hx hb hr (fun t ht hW => ⟨by first | rfl | decide | (simp only [sp_two, c_1, ↓reduceIte, not_true_eq_false, not_false_eq_true, and_self]; done) | (simp only [sp_two, c_1, ↓reduceIte, not_true_eq_false, not_false_eq_true, and_self]; rfl) | (simp [sp_two, c_1]; done) | (simp_all [sp_two]; done), ht⟩) (fun q hq => absurd hq List.not_mem_nil) dX11_copy_15
theorem dX11_again_0 : decode cX11_again 0 = .ok (.iload_n 1, 1) := by decide +kernel
theorem dX11_again_1 : decode cX11_again 1 = .ok (.invokestatic 386, 3) := by decide +kernel
theorem dX11_again_4 : decode cX11_again 4 = .ok (.ifCond .eq 10, 3) := by decide +kernel
theorem dX11_again_7 : decode cX11_again 7 = .ok (.iload_n 2, 1) := by decide +kernel
theorem dX11_again_8 : decode cX11_again 8 = .ok (.invokestatic 386, 3) := by decide +kernel
theorem dX11_again_11 : decode cX11_again 11 = .ok (.ifCond .ne 5, 3) := by decide +kernel
theorem dX11_again_14 : decode cX11_again 14 = .ok (.iconst (-1), 1) := by decide +kernel
theorem dX11_again_15 : decode cX11_again 15 = .ok (.ireturn, 1) := by decide +kernel
theorem dX11_again_16 : decode cX11_again 16 = .ok (.aload_n 0, 1) := by decide +kernel
theorem dX11_again_17 : decode cX11_again 17 = .ok (.getfield 23, 3) := by decide +kernel
theorem dX11_again_20 : decode cX11_again 20 = .ok (.iload_n 1, 1) := by decide +kernel
theorem dX11_again_21 : decode cX11_again 21 = .ok (.aaload, 1) := by decide +kernel
theorem dX11_again_22 : decode cX11_again 22 = .ok (.getfield 393, 3) := by decide +kernel
theorem dX11_again_25 : decode cX11_again 25 = .ok (.ifCond .ne 6, 3) := by decide +kernel
theorem dX11_again_28 : decode cX11_again 28 = .ok (.bipush (-3), 2) := by decide +kernel
theorem dX11_again_30 : decode cX11_again 30 = .ok (.ireturn, 1) := by decide +kernel
set_option maxHeartbeats 4000000 in
set_option maxRecDepth 100000 in
theorem c_X11_again (l : Launch) (D : va_G) (cI cQ cM cR : ClassId) (x0 : Nat) (nme : Nat) (sme : Nat) (xr : Nat) (xs : Nat) (r0 : Nat) (r1 : Nat) (r2 : Nat) (r3 : Nat) (v0 : Nat) (v1 : Nat) (v2 : Nat) (v3 : Nat) (p0 : Int32) (p1 : Int32) : Met l yX11_again (ws_ yX11_again cX11_again 3 (some .int)) ({ frames := 1, cells := 0, slots := 0, locals := 20 }) (PP D cI cQ cM cR [.ref x0, .int p0, .int p1] [(x0, .inr (11, [.ref nme, .ref sme, .int 0, .ref xr, .ref xs])), (xr, .inl (cR, 4, .inr (.inr (.inr (.inr (va_up (va_up (va_up (va_up (fun _ => none) 0 (some r0)) 1 (some r1)) 2 (some r2)) 3 (some r3))))))), (r0, .inr (8, [.int 0, .int 0, .ref v0])), (r1, .inr (8, [.int 0, .int 0, .ref v1])), (r2, .inr (8, [.int 0, .int 0, .ref v2])), (r3, .inr (8, [.int 0, .int 0, .ref v3]))]) (QP (some (.int (sp_two p0 p1)))) 0 0 (fun _ => False) := by
  refine Met.ofW (cc := cX11_again) (maxL := 3) (ret := (some .int)) (by decide) rfl ?_
  intro p e s m args below meth c s₁ B hml hv
  obtain ⟨rfl, hP, hK⟩ := hv
  have hx := B.exec
  have hb := B.bytes
  have hr := B.returns
  have hts : ∀ w ∈ lw_all, w.before _ s = true := fun w h => atoms_spec (ws := (ws_ yX11_again cX11_again 3 (some .int))) B.pre w (List.mem_cons_of_mem _ h)
  have hown : s.vm.findClass RX11 = some m.cls := findClass_of_methodNamed B.named
  have hlocks := B.notSynchronized
  have hP : va_P D vwCl [(x0, .inr (11, [.ref nme, .ref sme, .int 0, .ref xr, .ref xs])), (xr, .inl (cR, 4, .inr (.inr (.inr (.inr (va_up (va_up (va_up (va_up (fun _ => none) 0 (some r0)) 1 (some r1)) 2 (some r2)) 3 (some r3))))))), (r0, .inr (8, [.int 0, .int 0, .ref v0])), (r1, .inr (8, [.int 0, .int 0, .ref v1])), (r2, .inr (8, [.int 0, .int 0, .ref v2])), (r3, .inr (8, [.int 0, .int 0, .ref v3]))] s.heap := hP
  have hl := lv_entry ([.ref x0, .int p0, .int p1]) (n := 3) (Nat.le_of_ble_eq_true rfl)
  rw [lg_entry_eq]
  generalize (lg_sl ([.ref x0, .int p0, .int p1]) ++ List.replicate (3 - (lg_sl ([.ref x0, .int p0, .int p1])).length) Slot.unset).toArray = ls at hl ⊢
  have hl : lv_has ls 3 [(0, .ref x0), (1, .int p0), (2, .int p1)] := hl
  rcases row_split p0 with h | h | rfl | rfl | rfl | rfl
  · skip
    refine lv_iload_n hx hb dX11_again_0 rfl (lv_at hl 1 rfl) ?_
    refine p_call (va_runS (As := [.int p0]) (rest := []) ⟨hx, hb, hml, hown, hts⟩ (c_X11_isRow l D cI cQ cM cR p0) (va_cwS 1 hts (gS q_941 q_942 q_65 q_943) rfl rfl rfl (by decide +kernel) ⟨Nat.le_of_ble_eq_true rfl, Nat.le_of_ble_eq_true rfl⟩) ⟨PP_blind, PP_of hK (hP.sub [] rfl)⟩ rfl rfl hl.1 rfl (lv_room (Nat.le_of_ble_eq_true rfl)) dX11_again_1 ⟨Nat.le_of_ble_eq_true rfl, Nat.le_of_ble_eq_true rfl⟩) ?_
    refine lv_cst (v := 0) (rowi_lt h) ?_
    refine lv_if_eq (tgt := 14) hx hb dX11_again_4 (by decide) (fun _ => ?_) (fun c9 => absurd (by decide) c9)
    refine lv_iconst (v := (-1)) hx hb dX11_again_14 (by decide) ?_
    exact W.iret hx hb hr (fun t ht hW => ⟨by rw [sp_two, if_pos (rowi_lt h)], ht⟩) (fun q hq => absurd hq List.not_mem_nil) dX11_again_15
  · skip
    refine lv_iload_n hx hb dX11_again_0 rfl (lv_at hl 1 rfl) ?_
    refine p_call (va_runS (As := [.int p0]) (rest := []) ⟨hx, hb, hml, hown, hts⟩ (c_X11_isRow l D cI cQ cM cR p0) (va_cwS 1 hts (gS q_941 q_942 q_65 q_943) rfl rfl rfl (by decide +kernel) ⟨Nat.le_of_ble_eq_true rfl, Nat.le_of_ble_eq_true rfl⟩) ⟨PP_blind, PP_of hK (hP.sub [] rfl)⟩ rfl rfl hl.1 rfl (lv_room (Nat.le_of_ble_eq_true rfl)) dX11_again_1 ⟨Nat.le_of_ble_eq_true rfl, Nat.le_of_ble_eq_true rfl⟩) ?_
    refine lv_cst (v := 0) (rowi_ge h) ?_
    refine lv_if_eq (tgt := 14) hx hb dX11_again_4 (by decide) (fun _ => ?_) (fun c9 => absurd (by decide) c9)
    refine lv_iconst (v := (-1)) hx hb dX11_again_14 (by decide) ?_
    exact W.iret hx hb hr (fun t ht hW => ⟨by rw [sp_two, if_pos (rowi_ge h)], ht⟩) (fun q hq => absurd hq List.not_mem_nil) dX11_again_15
  · skip
    refine lv_iload_n hx hb dX11_again_0 rfl (lv_at hl 1 rfl) ?_
    refine p_call (va_runS (As := [.int 0]) (rest := []) ⟨hx, hb, hml, hown, hts⟩ (c_X11_isRow l D cI cQ cM cR 0) (va_cwS 1 hts (gS q_941 q_942 q_65 q_943) rfl rfl rfl (by decide +kernel) ⟨Nat.le_of_ble_eq_true rfl, Nat.le_of_ble_eq_true rfl⟩) ⟨PP_blind, PP_of hK (hP.sub [] rfl)⟩ rfl rfl hl.1 rfl (lv_room (Nat.le_of_ble_eq_true rfl)) dX11_again_1 ⟨Nat.le_of_ble_eq_true rfl, Nat.le_of_ble_eq_true rfl⟩) ?_
    refine lv_cst (v := 1) (by decide) ?_
    refine lv_if_eq (tgt := 14) hx hb dX11_again_4 (by decide) (fun c9 => absurd c9 (by decide)) (fun _ => ?_)
    refine lv_iload_n hx hb dX11_again_7 rfl (lv_at hl 2 rfl) ?_
    refine p_call (va_runS (As := [.int p1]) (rest := []) ⟨hx, hb, hml, hown, hts⟩ (c_X11_isRow l D cI cQ cM cR p1) (va_cwS 1 hts (gS q_941 q_942 q_65 q_943) rfl rfl rfl (by decide +kernel) ⟨Nat.le_of_ble_eq_true rfl, Nat.le_of_ble_eq_true rfl⟩) ⟨PP_blind, PP_of hK (hP.sub [] rfl)⟩ rfl rfl hl.1 rfl (lv_room (Nat.le_of_ble_eq_true rfl)) dX11_again_8 ⟨Nat.le_of_ble_eq_true rfl, Nat.le_of_ble_eq_true rfl⟩) ?_
    refine lv_if_ne (tgt := 16) hx hb dX11_again_11 (by decide) (fun c_1 => ?_) (fun c_1 => ?_)
    · refine lv_aload_n hx hb dX11_again_16 rfl (lv_at hl 0 rfl) ?_
      refine va_get (D := D) (ci := 11) (v := .ref xr) (C := RX11) (T := TX11) (N := 5) hx hb hts in_X11 hown hK hP 0 rfl rfl 3 (by decide) (hts _ q_415) (fun _ h9 => h9) rfl dX11_again_17 ?_
      refine lv_iload_n hx hb dX11_again_20 rfl (lv_at hl 1 rfl) ?_
      refine va_aldq hx hb hK hP 1 3 rfl rfl (i := 0) (by unfold vp_in; decide) dX11_again_21 ?_
      refine lv_vst (v := .ref r0) (by first | rfl | simp [va_rf, va_up]) ?_
      refine va_get (D := D) (ci := 8) (v := .int 0) (C := RX8) (T := TX8) (N := 3) hx hb hts in_X8 hown hK hP 2 rfl rfl 0 (by decide) (hts _ q_400) (fun _ h9 => h9) rfl dX11_again_22 ?_
      refine lv_if_ne (tgt := 31) hx hb dX11_again_25 (by decide) (fun c9 => absurd (by decide) c9) (fun _ => ?_)
      refine lv_bipush (v := (-3)) hx hb dX11_again_28 (by decide) ?_
      exact W.iret hx hb hr (fun t ht hW => ⟨by first | rfl | decide | (simp only [sp_two, c_1, ↓reduceIte, not_true_eq_false, not_false_eq_true, and_self]; done) | (simp only [sp_two, c_1, ↓reduceIte, not_true_eq_false, not_false_eq_true, and_self]; rfl) | (simp [sp_two, c_1]; done) | (simp_all [sp_two]; done), ht⟩) (fun q hq => absurd hq List.not_mem_nil) dX11_again_30
    · refine lv_iconst (v := (-1)) hx hb dX11_again_14 (by decide) ?_
      exact W.iret hx hb hr (fun t ht hW => ⟨by first | rfl | decide | (simp only [sp_two, c_1, ↓reduceIte, not_true_eq_false, not_false_eq_true, and_self]; done) | (simp only [sp_two, c_1, ↓reduceIte, not_true_eq_false, not_false_eq_true, and_self]; rfl) | (simp [sp_two, c_1]; done) | (simp_all [sp_two]; done), ht⟩) (fun q hq => absurd hq List.not_mem_nil) dX11_again_15
  · skip
    refine lv_iload_n hx hb dX11_again_0 rfl (lv_at hl 1 rfl) ?_
    refine p_call (va_runS (As := [.int 1]) (rest := []) ⟨hx, hb, hml, hown, hts⟩ (c_X11_isRow l D cI cQ cM cR 1) (va_cwS 1 hts (gS q_941 q_942 q_65 q_943) rfl rfl rfl (by decide +kernel) ⟨Nat.le_of_ble_eq_true rfl, Nat.le_of_ble_eq_true rfl⟩) ⟨PP_blind, PP_of hK (hP.sub [] rfl)⟩ rfl rfl hl.1 rfl (lv_room (Nat.le_of_ble_eq_true rfl)) dX11_again_1 ⟨Nat.le_of_ble_eq_true rfl, Nat.le_of_ble_eq_true rfl⟩) ?_
    refine lv_cst (v := 1) (by decide) ?_
    refine lv_if_eq (tgt := 14) hx hb dX11_again_4 (by decide) (fun c9 => absurd c9 (by decide)) (fun _ => ?_)
    refine lv_iload_n hx hb dX11_again_7 rfl (lv_at hl 2 rfl) ?_
    refine p_call (va_runS (As := [.int p1]) (rest := []) ⟨hx, hb, hml, hown, hts⟩ (c_X11_isRow l D cI cQ cM cR p1) (va_cwS 1 hts (gS q_941 q_942 q_65 q_943) rfl rfl rfl (by decide +kernel) ⟨Nat.le_of_ble_eq_true rfl, Nat.le_of_ble_eq_true rfl⟩) ⟨PP_blind, PP_of hK (hP.sub [] rfl)⟩ rfl rfl hl.1 rfl (lv_room (Nat.le_of_ble_eq_true rfl)) dX11_again_8 ⟨Nat.le_of_ble_eq_true rfl, Nat.le_of_ble_eq_true rfl⟩) ?_
    refine lv_if_ne (tgt := 16) hx hb dX11_again_11 (by decide) (fun c_1 => ?_) (fun c_1 => ?_)
    · refine lv_aload_n hx hb dX11_again_16 rfl (lv_at hl 0 rfl) ?_
      refine va_get (D := D) (ci := 11) (v := .ref xr) (C := RX11) (T := TX11) (N := 5) hx hb hts in_X11 hown hK hP 0 rfl rfl 3 (by decide) (hts _ q_415) (fun _ h9 => h9) rfl dX11_again_17 ?_
      refine lv_iload_n hx hb dX11_again_20 rfl (lv_at hl 1 rfl) ?_
      refine va_aldq hx hb hK hP 1 3 rfl rfl (i := 1) (by unfold vp_in; decide) dX11_again_21 ?_
      refine lv_vst (v := .ref r1) (by first | rfl | simp [va_rf, va_up]) ?_
      refine va_get (D := D) (ci := 8) (v := .int 0) (C := RX8) (T := TX8) (N := 3) hx hb hts in_X8 hown hK hP 3 rfl rfl 0 (by decide) (hts _ q_400) (fun _ h9 => h9) rfl dX11_again_22 ?_
      refine lv_if_ne (tgt := 31) hx hb dX11_again_25 (by decide) (fun c9 => absurd (by decide) c9) (fun _ => ?_)
      refine lv_bipush (v := (-3)) hx hb dX11_again_28 (by decide) ?_
      exact W.iret hx hb hr (fun t ht hW => ⟨by first | rfl | decide | (simp only [sp_two, c_1, ↓reduceIte, not_true_eq_false, not_false_eq_true, and_self]; done) | (simp only [sp_two, c_1, ↓reduceIte, not_true_eq_false, not_false_eq_true, and_self]; rfl) | (simp [sp_two, c_1]; done) | (simp_all [sp_two]; done), ht⟩) (fun q hq => absurd hq List.not_mem_nil) dX11_again_30
    · refine lv_iconst (v := (-1)) hx hb dX11_again_14 (by decide) ?_
      exact W.iret hx hb hr (fun t ht hW => ⟨by first | rfl | decide | (simp only [sp_two, c_1, ↓reduceIte, not_true_eq_false, not_false_eq_true, and_self]; done) | (simp only [sp_two, c_1, ↓reduceIte, not_true_eq_false, not_false_eq_true, and_self]; rfl) | (simp [sp_two, c_1]; done) | (simp_all [sp_two]; done), ht⟩) (fun q hq => absurd hq List.not_mem_nil) dX11_again_15
  · skip
    refine lv_iload_n hx hb dX11_again_0 rfl (lv_at hl 1 rfl) ?_
    refine p_call (va_runS (As := [.int 2]) (rest := []) ⟨hx, hb, hml, hown, hts⟩ (c_X11_isRow l D cI cQ cM cR 2) (va_cwS 1 hts (gS q_941 q_942 q_65 q_943) rfl rfl rfl (by decide +kernel) ⟨Nat.le_of_ble_eq_true rfl, Nat.le_of_ble_eq_true rfl⟩) ⟨PP_blind, PP_of hK (hP.sub [] rfl)⟩ rfl rfl hl.1 rfl (lv_room (Nat.le_of_ble_eq_true rfl)) dX11_again_1 ⟨Nat.le_of_ble_eq_true rfl, Nat.le_of_ble_eq_true rfl⟩) ?_
    refine lv_cst (v := 1) (by decide) ?_
    refine lv_if_eq (tgt := 14) hx hb dX11_again_4 (by decide) (fun c9 => absurd c9 (by decide)) (fun _ => ?_)
    refine lv_iload_n hx hb dX11_again_7 rfl (lv_at hl 2 rfl) ?_
    refine p_call (va_runS (As := [.int p1]) (rest := []) ⟨hx, hb, hml, hown, hts⟩ (c_X11_isRow l D cI cQ cM cR p1) (va_cwS 1 hts (gS q_941 q_942 q_65 q_943) rfl rfl rfl (by decide +kernel) ⟨Nat.le_of_ble_eq_true rfl, Nat.le_of_ble_eq_true rfl⟩) ⟨PP_blind, PP_of hK (hP.sub [] rfl)⟩ rfl rfl hl.1 rfl (lv_room (Nat.le_of_ble_eq_true rfl)) dX11_again_8 ⟨Nat.le_of_ble_eq_true rfl, Nat.le_of_ble_eq_true rfl⟩) ?_
    refine lv_if_ne (tgt := 16) hx hb dX11_again_11 (by decide) (fun c_1 => ?_) (fun c_1 => ?_)
    · refine lv_aload_n hx hb dX11_again_16 rfl (lv_at hl 0 rfl) ?_
      refine va_get (D := D) (ci := 11) (v := .ref xr) (C := RX11) (T := TX11) (N := 5) hx hb hts in_X11 hown hK hP 0 rfl rfl 3 (by decide) (hts _ q_415) (fun _ h9 => h9) rfl dX11_again_17 ?_
      refine lv_iload_n hx hb dX11_again_20 rfl (lv_at hl 1 rfl) ?_
      refine va_aldq hx hb hK hP 1 3 rfl rfl (i := 2) (by unfold vp_in; decide) dX11_again_21 ?_
      refine lv_vst (v := .ref r2) (by first | rfl | simp [va_rf, va_up]) ?_
      refine va_get (D := D) (ci := 8) (v := .int 0) (C := RX8) (T := TX8) (N := 3) hx hb hts in_X8 hown hK hP 4 rfl rfl 0 (by decide) (hts _ q_400) (fun _ h9 => h9) rfl dX11_again_22 ?_
      refine lv_if_ne (tgt := 31) hx hb dX11_again_25 (by decide) (fun c9 => absurd (by decide) c9) (fun _ => ?_)
      refine lv_bipush (v := (-3)) hx hb dX11_again_28 (by decide) ?_
      exact W.iret hx hb hr (fun t ht hW => ⟨by first | rfl | decide | (simp only [sp_two, c_1, ↓reduceIte, not_true_eq_false, not_false_eq_true, and_self]; done) | (simp only [sp_two, c_1, ↓reduceIte, not_true_eq_false, not_false_eq_true, and_self]; rfl) | (simp [sp_two, c_1]; done) | (simp_all [sp_two]; done), ht⟩) (fun q hq => absurd hq List.not_mem_nil) dX11_again_30
    · refine lv_iconst (v := (-1)) hx hb dX11_again_14 (by decide) ?_
      exact W.iret hx hb hr (fun t ht hW => ⟨by first | rfl | decide | (simp only [sp_two, c_1, ↓reduceIte, not_true_eq_false, not_false_eq_true, and_self]; done) | (simp only [sp_two, c_1, ↓reduceIte, not_true_eq_false, not_false_eq_true, and_self]; rfl) | (simp [sp_two, c_1]; done) | (simp_all [sp_two]; done), ht⟩) (fun q hq => absurd hq List.not_mem_nil) dX11_again_15
  · skip
    refine lv_iload_n hx hb dX11_again_0 rfl (lv_at hl 1 rfl) ?_
    refine p_call (va_runS (As := [.int 3]) (rest := []) ⟨hx, hb, hml, hown, hts⟩ (c_X11_isRow l D cI cQ cM cR 3) (va_cwS 1 hts (gS q_941 q_942 q_65 q_943) rfl rfl rfl (by decide +kernel) ⟨Nat.le_of_ble_eq_true rfl, Nat.le_of_ble_eq_true rfl⟩) ⟨PP_blind, PP_of hK (hP.sub [] rfl)⟩ rfl rfl hl.1 rfl (lv_room (Nat.le_of_ble_eq_true rfl)) dX11_again_1 ⟨Nat.le_of_ble_eq_true rfl, Nat.le_of_ble_eq_true rfl⟩) ?_
    refine lv_cst (v := 1) (by decide) ?_
    refine lv_if_eq (tgt := 14) hx hb dX11_again_4 (by decide) (fun c9 => absurd c9 (by decide)) (fun _ => ?_)
    refine lv_iload_n hx hb dX11_again_7 rfl (lv_at hl 2 rfl) ?_
    refine p_call (va_runS (As := [.int p1]) (rest := []) ⟨hx, hb, hml, hown, hts⟩ (c_X11_isRow l D cI cQ cM cR p1) (va_cwS 1 hts (gS q_941 q_942 q_65 q_943) rfl rfl rfl (by decide +kernel) ⟨Nat.le_of_ble_eq_true rfl, Nat.le_of_ble_eq_true rfl⟩) ⟨PP_blind, PP_of hK (hP.sub [] rfl)⟩ rfl rfl hl.1 rfl (lv_room (Nat.le_of_ble_eq_true rfl)) dX11_again_8 ⟨Nat.le_of_ble_eq_true rfl, Nat.le_of_ble_eq_true rfl⟩) ?_
    refine lv_if_ne (tgt := 16) hx hb dX11_again_11 (by decide) (fun c_1 => ?_) (fun c_1 => ?_)
    · refine lv_aload_n hx hb dX11_again_16 rfl (lv_at hl 0 rfl) ?_
      refine va_get (D := D) (ci := 11) (v := .ref xr) (C := RX11) (T := TX11) (N := 5) hx hb hts in_X11 hown hK hP 0 rfl rfl 3 (by decide) (hts _ q_415) (fun _ h9 => h9) rfl dX11_again_17 ?_
      refine lv_iload_n hx hb dX11_again_20 rfl (lv_at hl 1 rfl) ?_
      refine va_aldq hx hb hK hP 1 3 rfl rfl (i := 3) (by unfold vp_in; decide) dX11_again_21 ?_
      refine lv_vst (v := .ref r3) (by first | rfl | simp [va_rf, va_up]) ?_
      refine va_get (D := D) (ci := 8) (v := .int 0) (C := RX8) (T := TX8) (N := 3) hx hb hts in_X8 hown hK hP 5 rfl rfl 0 (by decide) (hts _ q_400) (fun _ h9 => h9) rfl dX11_again_22 ?_
      refine lv_if_ne (tgt := 31) hx hb dX11_again_25 (by decide) (fun c9 => absurd (by decide) c9) (fun _ => ?_)
      refine lv_bipush (v := (-3)) hx hb dX11_again_28 (by decide) ?_
      exact W.iret hx hb hr (fun t ht hW => ⟨by first | rfl | decide | (simp only [sp_two, c_1, ↓reduceIte, not_true_eq_false, not_false_eq_true, and_self]; done) | (simp only [sp_two, c_1, ↓reduceIte, not_true_eq_false, not_false_eq_true, and_self]; rfl) | (simp [sp_two, c_1]; done) | (simp_all [sp_two]; done), ht⟩) (fun q hq => absurd hq List.not_mem_nil) dX11_again_30
    · refine lv_iconst (v := (-1)) hx hb dX11_again_14 (by decide) ?_
      exact W.iret hx hb hr (fun t ht hW => ⟨by first | rfl | decide | (simp only [sp_two, c_1, ↓reduceIte, not_true_eq_false, not_false_eq_true, and_self]; done) | (simp only [sp_two, c_1, ↓reduceIte, not_true_eq_false, not_false_eq_true, and_self]; rfl) | (simp [sp_two, c_1]; done) | (simp_all [sp_two]; done), ht⟩) (fun q hq => absurd hq List.not_mem_nil) dX11_again_15
theorem dX11_element_0 : decode cX11_element 0 = .ok (.iload_n 1, 1) := by decide +kernel
theorem dX11_element_1 : decode cX11_element 1 = .ok (.invokestatic 386, 3) := by decide +kernel
theorem dX11_element_4 : decode cX11_element 4 = .ok (.ifCond .eq 20, 3) := by decide +kernel
theorem dX11_element_7 : decode cX11_element 7 = .ok (.iload_n 2, 1) := by decide +kernel
theorem dX11_element_8 : decode cX11_element 8 = .ok (.ifCond .lt 16, 3) := by decide +kernel
theorem dX11_element_11 : decode cX11_element 11 = .ok (.iload_n 2, 1) := by decide +kernel
theorem dX11_element_12 : decode cX11_element 12 = .ok (.aload_n 0, 1) := by decide +kernel
theorem dX11_element_13 : decode cX11_element 13 = .ok (.getfield 23, 3) := by decide +kernel
theorem dX11_element_16 : decode cX11_element 16 = .ok (.iload_n 1, 1) := by decide +kernel
theorem dX11_element_17 : decode cX11_element 17 = .ok (.aaload, 1) := by decide +kernel
theorem dX11_element_18 : decode cX11_element 18 = .ok (.getfield 393, 3) := by decide +kernel
theorem dX11_element_21 : decode cX11_element 21 = .ok (.if_icmp .lt 7, 3) := by decide +kernel
theorem dX11_element_24 : decode cX11_element 24 = .ok (.ldc2_w 414, 3) := by decide +kernel
theorem dX11_element_27 : decode cX11_element 27 = .ok (.lreturn, 1) := by decide +kernel
set_option maxRecDepth 100000 in
theorem q_969 : (.constantLong RX11 414 (-9223372036854775808)) ∈ lw_all := List.mem_filter.mpr ⟨List.mem_of_getElem? (i := 969) (by decide +kernel), by decide +kernel⟩
set_option maxHeartbeats 4000000 in
set_option maxRecDepth 100000 in
theorem c_X11_element (l : Launch) (D : va_G) (cI cQ cM cR : ClassId) (x0 : Nat) (nme : Nat) (sme : Nat) (xr : Nat) (xs : Nat) (r0 : Nat) (r1 : Nat) (r2 : Nat) (r3 : Nat) (v0 : Nat) (v1 : Nat) (v2 : Nat) (v3 : Nat) (p0 : Int32) (p1 : Int32) : Met l yX11_element (ws_ yX11_element cX11_element 3 (some .long)) ({ frames := 1, cells := 0, slots := 0, locals := 20 }) (PP D cI cQ cM cR [.ref x0, .int p0, .int p1] [(x0, .inr (11, [.ref nme, .ref sme, .int 0, .ref xr, .ref xs])), (xr, .inl (cR, 4, .inr (.inr (.inr (.inr (va_up (va_up (va_up (va_up (fun _ => none) 0 (some r0)) 1 (some r1)) 2 (some r2)) 3 (some r3))))))), (r0, .inr (8, [.int 0, .int 0, .ref v0])), (r1, .inr (8, [.int 0, .int 0, .ref v1])), (r2, .inr (8, [.int 0, .int 0, .ref v2])), (r3, .inr (8, [.int 0, .int 0, .ref v3]))]) (QP (some (.long (-9223372036854775808)))) 0 0 (fun _ => False) := by
  refine Met.ofW (cc := cX11_element) (maxL := 3) (ret := (some .long)) (by decide) rfl ?_
  intro p e s m args below meth c s₁ B hml hv
  obtain ⟨rfl, hP, hK⟩ := hv
  have hx := B.exec
  have hb := B.bytes
  have hr := B.returns
  have hts : ∀ w ∈ lw_all, w.before _ s = true := fun w h => atoms_spec (ws := (ws_ yX11_element cX11_element 3 (some .long))) B.pre w (List.mem_cons_of_mem _ h)
  have hown : s.vm.findClass RX11 = some m.cls := findClass_of_methodNamed B.named
  have hlocks := B.notSynchronized
  have hP : va_P D vwCl [(x0, .inr (11, [.ref nme, .ref sme, .int 0, .ref xr, .ref xs])), (xr, .inl (cR, 4, .inr (.inr (.inr (.inr (va_up (va_up (va_up (va_up (fun _ => none) 0 (some r0)) 1 (some r1)) 2 (some r2)) 3 (some r3))))))), (r0, .inr (8, [.int 0, .int 0, .ref v0])), (r1, .inr (8, [.int 0, .int 0, .ref v1])), (r2, .inr (8, [.int 0, .int 0, .ref v2])), (r3, .inr (8, [.int 0, .int 0, .ref v3]))] s.heap := hP
  have hl := lv_entry ([.ref x0, .int p0, .int p1]) (n := 3) (Nat.le_of_ble_eq_true rfl)
  rw [lg_entry_eq]
  generalize (lg_sl ([.ref x0, .int p0, .int p1]) ++ List.replicate (3 - (lg_sl ([.ref x0, .int p0, .int p1])).length) Slot.unset).toArray = ls at hl ⊢
  have hl : lv_has ls 3 [(0, .ref x0), (1, .int p0), (2, .int p1)] := hl
  rcases row_split p0 with h | h | rfl | rfl | rfl | rfl
  · skip
    refine lv_iload_n hx hb dX11_element_0 rfl (lv_at hl 1 rfl) ?_
    refine p_call (va_runS (As := [.int p0]) (rest := []) ⟨hx, hb, hml, hown, hts⟩ (c_X11_isRow l D cI cQ cM cR p0) (va_cwS 1 hts (gS q_941 q_942 q_65 q_943) rfl rfl rfl (by decide +kernel) ⟨Nat.le_of_ble_eq_true rfl, Nat.le_of_ble_eq_true rfl⟩) ⟨PP_blind, PP_of hK (hP.sub [] rfl)⟩ rfl rfl hl.1 rfl (lv_room (Nat.le_of_ble_eq_true rfl)) dX11_element_1 ⟨Nat.le_of_ble_eq_true rfl, Nat.le_of_ble_eq_true rfl⟩) ?_
    refine lv_cst (v := 0) (rowi_lt h) ?_
    refine lv_if_eq (tgt := 24) hx hb dX11_element_4 (by decide) (fun _ => ?_) (fun c9 => absurd (by decide) c9)
    refine lv_ldc2 (v := (-9223372036854775808)) hx hb hown (hts _ q_969) dX11_element_24 ?_
    exact W.lret hx hb hr (fun t ht hW => ⟨rfl, ht⟩) (fun q hq => absurd hq List.not_mem_nil) dX11_element_27
  · skip
    refine lv_iload_n hx hb dX11_element_0 rfl (lv_at hl 1 rfl) ?_
    refine p_call (va_runS (As := [.int p0]) (rest := []) ⟨hx, hb, hml, hown, hts⟩ (c_X11_isRow l D cI cQ cM cR p0) (va_cwS 1 hts (gS q_941 q_942 q_65 q_943) rfl rfl rfl (by decide +kernel) ⟨Nat.le_of_ble_eq_true rfl, Nat.le_of_ble_eq_true rfl⟩) ⟨PP_blind, PP_of hK (hP.sub [] rfl)⟩ rfl rfl hl.1 rfl (lv_room (Nat.le_of_ble_eq_true rfl)) dX11_element_1 ⟨Nat.le_of_ble_eq_true rfl, Nat.le_of_ble_eq_true rfl⟩) ?_
    refine lv_cst (v := 0) (rowi_ge h) ?_
    refine lv_if_eq (tgt := 24) hx hb dX11_element_4 (by decide) (fun _ => ?_) (fun c9 => absurd (by decide) c9)
    refine lv_ldc2 (v := (-9223372036854775808)) hx hb hown (hts _ q_969) dX11_element_24 ?_
    exact W.lret hx hb hr (fun t ht hW => ⟨rfl, ht⟩) (fun q hq => absurd hq List.not_mem_nil) dX11_element_27
  · skip
    refine lv_iload_n hx hb dX11_element_0 rfl (lv_at hl 1 rfl) ?_
    refine p_call (va_runS (As := [.int 0]) (rest := []) ⟨hx, hb, hml, hown, hts⟩ (c_X11_isRow l D cI cQ cM cR 0) (va_cwS 1 hts (gS q_941 q_942 q_65 q_943) rfl rfl rfl (by decide +kernel) ⟨Nat.le_of_ble_eq_true rfl, Nat.le_of_ble_eq_true rfl⟩) ⟨PP_blind, PP_of hK (hP.sub [] rfl)⟩ rfl rfl hl.1 rfl (lv_room (Nat.le_of_ble_eq_true rfl)) dX11_element_1 ⟨Nat.le_of_ble_eq_true rfl, Nat.le_of_ble_eq_true rfl⟩) ?_
    refine lv_cst (v := 1) (by decide) ?_
    refine lv_if_eq (tgt := 24) hx hb dX11_element_4 (by decide) (fun c9 => absurd c9 (by decide)) (fun _ => ?_)
    refine lv_iload_n hx hb dX11_element_7 rfl (lv_at hl 2 rfl) ?_
    refine lv_if_lt (tgt := 24) hx hb dX11_element_8 (by decide) (fun c_1 => ?_) (fun c_1 => ?_)
    · refine lv_ldc2 (v := (-9223372036854775808)) hx hb hown (hts _ q_969) dX11_element_24 ?_
      exact W.lret hx hb hr (fun t ht hW => ⟨rfl, ht⟩) (fun q hq => absurd hq List.not_mem_nil) dX11_element_27
    · refine lv_iload_n hx hb dX11_element_11 rfl (lv_at hl 2 rfl) ?_
      refine lv_aload_n hx hb dX11_element_12 rfl (lv_at hl 0 rfl) ?_
      refine va_get (D := D) (ci := 11) (v := .ref xr) (C := RX11) (T := TX11) (N := 5) hx hb hts in_X11 hown hK hP 0 rfl rfl 3 (by decide) (hts _ q_415) (fun _ h9 => h9) rfl dX11_element_13 ?_
      refine lv_iload_n hx hb dX11_element_16 rfl (lv_at hl 1 rfl) ?_
      refine va_aldq hx hb hK hP 1 3 rfl rfl (i := 0) (by unfold vp_in; decide) dX11_element_17 ?_
      refine lv_vst (v := .ref r0) (by first | rfl | simp [va_rf, va_up]) ?_
      refine va_get (D := D) (ci := 8) (v := .int 0) (C := RX8) (T := TX8) (N := 3) hx hb hts in_X8 hown hK hP 2 rfl rfl 0 (by decide) (hts _ q_400) (fun _ h9 => h9) rfl dX11_element_18 ?_
      refine lv_icmp_lt (tgt := 28) hx hb dX11_element_21 (by decide) (fun c9 => absurd c9 (c_1)) (fun _ => ?_)
      refine lv_ldc2 (v := (-9223372036854775808)) hx hb hown (hts _ q_969) dX11_element_24 ?_
      exact W.lret hx hb hr (fun t ht hW => ⟨rfl, ht⟩) (fun q hq => absurd hq List.not_mem_nil) dX11_element_27
  · skip
    refine lv_iload_n hx hb dX11_element_0 rfl (lv_at hl 1 rfl) ?_
    refine p_call (va_runS (As := [.int 1]) (rest := []) ⟨hx, hb, hml, hown, hts⟩ (c_X11_isRow l D cI cQ cM cR 1) (va_cwS 1 hts (gS q_941 q_942 q_65 q_943) rfl rfl rfl (by decide +kernel) ⟨Nat.le_of_ble_eq_true rfl, Nat.le_of_ble_eq_true rfl⟩) ⟨PP_blind, PP_of hK (hP.sub [] rfl)⟩ rfl rfl hl.1 rfl (lv_room (Nat.le_of_ble_eq_true rfl)) dX11_element_1 ⟨Nat.le_of_ble_eq_true rfl, Nat.le_of_ble_eq_true rfl⟩) ?_
    refine lv_cst (v := 1) (by decide) ?_
    refine lv_if_eq (tgt := 24) hx hb dX11_element_4 (by decide) (fun c9 => absurd c9 (by decide)) (fun _ => ?_)
    refine lv_iload_n hx hb dX11_element_7 rfl (lv_at hl 2 rfl) ?_
    refine lv_if_lt (tgt := 24) hx hb dX11_element_8 (by decide) (fun c_1 => ?_) (fun c_1 => ?_)
    · refine lv_ldc2 (v := (-9223372036854775808)) hx hb hown (hts _ q_969) dX11_element_24 ?_
      exact W.lret hx hb hr (fun t ht hW => ⟨rfl, ht⟩) (fun q hq => absurd hq List.not_mem_nil) dX11_element_27
    · refine lv_iload_n hx hb dX11_element_11 rfl (lv_at hl 2 rfl) ?_
      refine lv_aload_n hx hb dX11_element_12 rfl (lv_at hl 0 rfl) ?_
      refine va_get (D := D) (ci := 11) (v := .ref xr) (C := RX11) (T := TX11) (N := 5) hx hb hts in_X11 hown hK hP 0 rfl rfl 3 (by decide) (hts _ q_415) (fun _ h9 => h9) rfl dX11_element_13 ?_
      refine lv_iload_n hx hb dX11_element_16 rfl (lv_at hl 1 rfl) ?_
      refine va_aldq hx hb hK hP 1 3 rfl rfl (i := 1) (by unfold vp_in; decide) dX11_element_17 ?_
      refine lv_vst (v := .ref r1) (by first | rfl | simp [va_rf, va_up]) ?_
      refine va_get (D := D) (ci := 8) (v := .int 0) (C := RX8) (T := TX8) (N := 3) hx hb hts in_X8 hown hK hP 3 rfl rfl 0 (by decide) (hts _ q_400) (fun _ h9 => h9) rfl dX11_element_18 ?_
      refine lv_icmp_lt (tgt := 28) hx hb dX11_element_21 (by decide) (fun c9 => absurd c9 (c_1)) (fun _ => ?_)
      refine lv_ldc2 (v := (-9223372036854775808)) hx hb hown (hts _ q_969) dX11_element_24 ?_
      exact W.lret hx hb hr (fun t ht hW => ⟨rfl, ht⟩) (fun q hq => absurd hq List.not_mem_nil) dX11_element_27
  · skip
    refine lv_iload_n hx hb dX11_element_0 rfl (lv_at hl 1 rfl) ?_
    refine p_call (va_runS (As := [.int 2]) (rest := []) ⟨hx, hb, hml, hown, hts⟩ (c_X11_isRow l D cI cQ cM cR 2) (va_cwS 1 hts (gS q_941 q_942 q_65 q_943) rfl rfl rfl (by decide +kernel) ⟨Nat.le_of_ble_eq_true rfl, Nat.le_of_ble_eq_true rfl⟩) ⟨PP_blind, PP_of hK (hP.sub [] rfl)⟩ rfl rfl hl.1 rfl (lv_room (Nat.le_of_ble_eq_true rfl)) dX11_element_1 ⟨Nat.le_of_ble_eq_true rfl, Nat.le_of_ble_eq_true rfl⟩) ?_
    refine lv_cst (v := 1) (by decide) ?_
    refine lv_if_eq (tgt := 24) hx hb dX11_element_4 (by decide) (fun c9 => absurd c9 (by decide)) (fun _ => ?_)
    refine lv_iload_n hx hb dX11_element_7 rfl (lv_at hl 2 rfl) ?_
    refine lv_if_lt (tgt := 24) hx hb dX11_element_8 (by decide) (fun c_1 => ?_) (fun c_1 => ?_)
    · refine lv_ldc2 (v := (-9223372036854775808)) hx hb hown (hts _ q_969) dX11_element_24 ?_
      exact W.lret hx hb hr (fun t ht hW => ⟨rfl, ht⟩) (fun q hq => absurd hq List.not_mem_nil) dX11_element_27
    · refine lv_iload_n hx hb dX11_element_11 rfl (lv_at hl 2 rfl) ?_
      refine lv_aload_n hx hb dX11_element_12 rfl (lv_at hl 0 rfl) ?_
      refine va_get (D := D) (ci := 11) (v := .ref xr) (C := RX11) (T := TX11) (N := 5) hx hb hts in_X11 hown hK hP 0 rfl rfl 3 (by decide) (hts _ q_415) (fun _ h9 => h9) rfl dX11_element_13 ?_
      refine lv_iload_n hx hb dX11_element_16 rfl (lv_at hl 1 rfl) ?_
      refine va_aldq hx hb hK hP 1 3 rfl rfl (i := 2) (by unfold vp_in; decide) dX11_element_17 ?_
      refine lv_vst (v := .ref r2) (by first | rfl | simp [va_rf, va_up]) ?_
      refine va_get (D := D) (ci := 8) (v := .int 0) (C := RX8) (T := TX8) (N := 3) hx hb hts in_X8 hown hK hP 4 rfl rfl 0 (by decide) (hts _ q_400) (fun _ h9 => h9) rfl dX11_element_18 ?_
      refine lv_icmp_lt (tgt := 28) hx hb dX11_element_21 (by decide) (fun c9 => absurd c9 (c_1)) (fun _ => ?_)
      refine lv_ldc2 (v := (-9223372036854775808)) hx hb hown (hts _ q_969) dX11_element_24 ?_
      exact W.lret hx hb hr (fun t ht hW => ⟨rfl, ht⟩) (fun q hq => absurd hq List.not_mem_nil) dX11_element_27
  · skip
    refine lv_iload_n hx hb dX11_element_0 rfl (lv_at hl 1 rfl) ?_
    refine p_call (va_runS (As := [.int 3]) (rest := []) ⟨hx, hb, hml, hown, hts⟩ (c_X11_isRow l D cI cQ cM cR 3) (va_cwS 1 hts (gS q_941 q_942 q_65 q_943) rfl rfl rfl (by decide +kernel) ⟨Nat.le_of_ble_eq_true rfl, Nat.le_of_ble_eq_true rfl⟩) ⟨PP_blind, PP_of hK (hP.sub [] rfl)⟩ rfl rfl hl.1 rfl (lv_room (Nat.le_of_ble_eq_true rfl)) dX11_element_1 ⟨Nat.le_of_ble_eq_true rfl, Nat.le_of_ble_eq_true rfl⟩) ?_
    refine lv_cst (v := 1) (by decide) ?_
    refine lv_if_eq (tgt := 24) hx hb dX11_element_4 (by decide) (fun c9 => absurd c9 (by decide)) (fun _ => ?_)
    refine lv_iload_n hx hb dX11_element_7 rfl (lv_at hl 2 rfl) ?_
    refine lv_if_lt (tgt := 24) hx hb dX11_element_8 (by decide) (fun c_1 => ?_) (fun c_1 => ?_)
    · refine lv_ldc2 (v := (-9223372036854775808)) hx hb hown (hts _ q_969) dX11_element_24 ?_
      exact W.lret hx hb hr (fun t ht hW => ⟨rfl, ht⟩) (fun q hq => absurd hq List.not_mem_nil) dX11_element_27
    · refine lv_iload_n hx hb dX11_element_11 rfl (lv_at hl 2 rfl) ?_
      refine lv_aload_n hx hb dX11_element_12 rfl (lv_at hl 0 rfl) ?_
      refine va_get (D := D) (ci := 11) (v := .ref xr) (C := RX11) (T := TX11) (N := 5) hx hb hts in_X11 hown hK hP 0 rfl rfl 3 (by decide) (hts _ q_415) (fun _ h9 => h9) rfl dX11_element_13 ?_
      refine lv_iload_n hx hb dX11_element_16 rfl (lv_at hl 1 rfl) ?_
      refine va_aldq hx hb hK hP 1 3 rfl rfl (i := 3) (by unfold vp_in; decide) dX11_element_17 ?_
      refine lv_vst (v := .ref r3) (by first | rfl | simp [va_rf, va_up]) ?_
      refine va_get (D := D) (ci := 8) (v := .int 0) (C := RX8) (T := TX8) (N := 3) hx hb hts in_X8 hown hK hP 5 rfl rfl 0 (by decide) (hts _ q_400) (fun _ h9 => h9) rfl dX11_element_18 ?_
      refine lv_icmp_lt (tgt := 28) hx hb dX11_element_21 (by decide) (fun c9 => absurd c9 (c_1)) (fun _ => ?_)
      refine lv_ldc2 (v := (-9223372036854775808)) hx hb hown (hts _ q_969) dX11_element_24 ?_
      exact W.lret hx hb hr (fun t ht hW => ⟨rfl, ht⟩) (fun q hq => absurd hq List.not_mem_nil) dX11_element_27
