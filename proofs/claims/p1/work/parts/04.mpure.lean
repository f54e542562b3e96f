theorem sps0 {r w e : Int32} (h : rowi r = 0) : sp_store r w e = -1 := by
  rw [sp_store, if_pos h]
theorem sps1 {r w e : Int32} (h : ¬ rowi r = 0) (h2 : btw w 0 1 = 0) : sp_store r w e = -1 := by
  rw [sp_store, if_neg h, if_neg ((btw_01 w).mp h2)]
theorem sps2 {r w e : Int32} (h : ¬ rowi r = 0) (h2 : ¬ btw w 0 1 = 0) (h3 : btw e 0 1 = 0) : sp_store r w e = -2 := by
  rw [sp_store, if_neg h, if_pos (Classical.not_not.mp (fun z => h2 ((btw_01 w).mpr z))), if_neg ((btw_01 e).mp h3)]
theorem sps3 {r w e : Int32} (h : ¬ rowi r = 0) (h2 : ¬ btw w 0 1 = 0) (h3 : ¬ btw e 0 1 = 0) : sp_store r w e = -3 := by
  rw [sp_store, if_neg h, if_pos (Classical.not_not.mp (fun z => h2 ((btw_01 w).mpr z))), if_pos (Classical.not_not.mp (fun z => h3 ((btw_01 e).mpr z)))]
def com (v : Int32) : Int32 := if v = 1 then 1 else 0
theorem gt3 {v : Int32} (h : 4 ≤ v) : 3 < v := by
  have h1 : (4 : Int) ≤ v.toInt := Int32.le_iff_toInt_le.mp h
  exact Int32.lt_iff_toInt_lt.mpr (show (3 : Int) < v.toInt by omega)
theorem gt10 {v : Int32} (h : 18 < v) : 10 < v := by
  have h1 : (18 : Int) < v.toInt := Int32.lt_iff_toInt_lt.mp h
  exact Int32.lt_iff_toInt_lt.mpr (show (10 : Int) < v.toInt by omega)
theorem sp_report_ge {v : Int32} (h : 4 ≤ v) : sp_report v = -1 := by
  unfold sp_report
  by_cases h1 : v < 0
  · rw [if_pos h1]
  · rw [if_neg h1, if_neg (Int32.not_lt.mpr h)]
theorem split9 (v : Int32) : ((v.toInt < 0 ∨ 8 < v.toInt) ∧ ¬ v = 1) ∨ v = 0 ∨ v = 1 ∨ v = 2 ∨ v = 3 ∨ v = 4 ∨ v = 5 ∨ v = 6 ∨ v = 7 ∨ v = 8 := by
  rcases pk_ix v (n := 9) (by decide) with h | h | ⟨j, hj, rfl⟩
  · exact Or.inl ⟨Or.inl (Int32.lt_iff_toInt_lt.mp h), fun z => by subst z; exact absurd h (by decide)⟩
  · have h1 : (9 : Int) ≤ v.toInt := Int32.le_iff_toInt_le.mp h
    exact Or.inl ⟨Or.inr (by omega), fun z => by subst z; exact absurd h (by decide)⟩
  · refine Or.inr ?_
    match j, hj with
    | 0, _ => exact Or.inl rfl
    | 1, _ => exact Or.inr (Or.inl rfl)
    | 2, _ => exact Or.inr (Or.inr (Or.inl rfl))
    | 3, _ => exact Or.inr (Or.inr (Or.inr (Or.inl rfl)))
    | 4, _ => exact Or.inr (Or.inr (Or.inr (Or.inr (Or.inl rfl))))
    | 5, _ => exact Or.inr (Or.inr (Or.inr (Or.inr (Or.inr (Or.inl rfl)))))
    | 6, _ => exact Or.inr (Or.inr (Or.inr (Or.inr (Or.inr (Or.inr (Or.inl rfl))))))
    | 7, _ => exact Or.inr (Or.inr (Or.inr (Or.inr (Or.inr (Or.inr (Or.inr (Or.inl rfl)))))))
    | 8, _ => exact Or.inr (Or.inr (Or.inr (Or.inr (Or.inr (Or.inr (Or.inr (Or.inr (rfl))))))))
    | j + 9, hj => exact absurd hj (by omega)
theorem dX12_isBetween_0 : decode cX12_isBetween 0 = .ok (.iload_n 0, 1) := by decide +kernel
theorem dX12_isBetween_1 : decode cX12_isBetween 1 = .ok (.iload_n 1, 1) := by decide +kernel
theorem dX12_isBetween_2 : decode cX12_isBetween 2 = .ok (.if_icmp .lt 12, 3) := by decide +kernel
theorem dX12_isBetween_5 : decode cX12_isBetween 5 = .ok (.iload_n 0, 1) := by decide +kernel
theorem dX12_isBetween_6 : decode cX12_isBetween 6 = .ok (.iload_n 2, 1) := by decide +kernel
theorem dX12_isBetween_7 : decode cX12_isBetween 7 = .ok (.if_icmp .gt 7, 3) := by decide +kernel
theorem dX12_isBetween_10 : decode cX12_isBetween 10 = .ok (.iconst 1, 1) := by decide +kernel
theorem dX12_isBetween_11 : decode cX12_isBetween 11 = .ok (.goto 4, 3) := by decide +kernel
theorem dX12_isBetween_14 : decode cX12_isBetween 14 = .ok (.iconst 0, 1) := by decide +kernel
theorem dX12_isBetween_15 : decode cX12_isBetween 15 = .ok (.ireturn, 1) := by decide +kernel
set_option maxHeartbeats 4000000 in
set_option maxRecDepth 100000 in
theorem c_X12_isBetween (l : Launch) (D : va_G) (cI cQ cM cR : ClassId) (p0 : Int32) (p1 : Int32) (p2 : Int32) : Met l yX12_isBetween (ws_ yX12_isBetween cX12_isBetween 3 (some .boolean)) ({ frames := 0, cells := 0, slots := 0, locals := 0 }) (PP D cI cQ cM cR [.int p0, .int p1, .int p2] []) (QP (some (.int (btw p0 p1 p2)))) 0 0 (fun _ => False) := by
  refine Met.ofW (cc := cX12_isBetween) (maxL := 3) (ret := (some .boolean)) (by decide) rfl ?_
  intro p e s m args below meth c s₁ B hml hv
  obtain ⟨rfl, hP, hK⟩ := hv
  have hx := B.exec
  have hb := B.bytes
  have hr := B.returns
  have hts : ∀ w ∈ lw_all, w.before _ s = true := fun w h => atoms_spec (ws := (ws_ yX12_isBetween cX12_isBetween 3 (some .boolean))) B.pre w (List.mem_cons_of_mem _ h)
  have hown : s.vm.findClass RX12 = some m.cls := findClass_of_methodNamed B.named
  have hlocks := B.notSynchronized
  have hP : va_P D vwCl [] s.heap := hP
  have hl := lv_entry ([.int p0, .int p1, .int p2]) (n := 3) (Nat.le_of_ble_eq_true rfl)
  rw [lg_entry_eq]
  generalize (lg_sl ([.int p0, .int p1, .int p2]) ++ List.replicate (3 - (lg_sl ([.int p0, .int p1, .int p2])).length) Slot.unset).toArray = ls at hl ⊢
  have hl : lv_has ls 3 [(0, .int p0), (1, .int p1), (2, .int p2)] := hl
  refine lv_iload_n hx hb dX12_isBetween_0 rfl (lv_at hl 0 rfl) ?_
  refine lv_iload_n hx hb dX12_isBetween_1 rfl (lv_at hl 1 rfl) ?_
  refine lv_icmp_lt (tgt := 14) hx hb dX12_isBetween_2 (by decide) (fun c_1 => ?_) (fun c_1 => ?_)
  · refine lv_iconst (v := 0) hx hb dX12_isBetween_14 (by decide) ?_
    exact W.zret hx hb hr rfl (fun t ht hW => ⟨by first | rfl | (simp only [btw, c_1, ↓reduceIte, if_true, if_false, not_true_eq_false, not_false_eq_true]; done) | (simp [btw, c_1]; done), ht⟩) (fun q hq => absurd hq List.not_mem_nil) dX12_isBetween_15
  · refine lv_iload_n hx hb dX12_isBetween_5 rfl (lv_at hl 0 rfl) ?_
    refine lv_iload_n hx hb dX12_isBetween_6 rfl (lv_at hl 2 rfl) ?_
    refine lv_icmp_gt (tgt := 14) hx hb dX12_isBetween_7 (by decide) (fun c_2 => ?_) (fun c_2 => ?_)
    · refine lv_iconst (v := 0) hx hb dX12_isBetween_14 (by decide) ?_
      exact W.zret hx hb hr rfl (fun t ht hW => ⟨by first | rfl | (simp only [btw, c_1, c_2, ↓reduceIte, if_true, if_false, not_true_eq_false, not_false_eq_true]; done) | (simp [btw, c_1, c_2]; done), ht⟩) (fun q hq => absurd hq List.not_mem_nil) dX12_isBetween_15
    · refine lv_iconst (v := 1) hx hb dX12_isBetween_10 (by decide) ?_
      refine lv_goto (tgt := 15) hx hb dX12_isBetween_11 (by decide) ?_
      exact W.zret hx hb hr rfl (fun t ht hW => ⟨by first | rfl | (simp only [btw, c_1, c_2, ↓reduceIte, if_true, if_false, not_true_eq_false, not_false_eq_true]; done) | (simp [btw, c_1, c_2]; done), ht⟩) (fun q hq => absurd hq List.not_mem_nil) dX12_isBetween_15
theorem dX12_isRow_0 : decode cX12_isRow 0 = .ok (.iload_n 0, 1) := by decide +kernel
theorem dX12_isRow_1 : decode cX12_isRow 1 = .ok (.ifCond .lt 12, 3) := by decide +kernel
theorem dX12_isRow_4 : decode cX12_isRow 4 = .ok (.iload_n 0, 1) := by decide +kernel
theorem dX12_isRow_5 : decode cX12_isRow 5 = .ok (.iconst 4, 1) := by decide +kernel
theorem dX12_isRow_6 : decode cX12_isRow 6 = .ok (.if_icmp .ge 7, 3) := by decide +kernel
theorem dX12_isRow_9 : decode cX12_isRow 9 = .ok (.iconst 1, 1) := by decide +kernel
theorem dX12_isRow_10 : decode cX12_isRow 10 = .ok (.goto 4, 3) := by decide +kernel
theorem dX12_isRow_13 : decode cX12_isRow 13 = .ok (.iconst 0, 1) := by decide +kernel
theorem dX12_isRow_14 : decode cX12_isRow 14 = .ok (.ireturn, 1) := by decide +kernel
set_option maxHeartbeats 4000000 in
set_option maxRecDepth 100000 in
theorem c_X12_isRow (l : Launch) (D : va_G) (cI cQ cM cR : ClassId) (p0 : Int32) : Met l yX12_isRow (ws_ yX12_isRow cX12_isRow 1 (some .boolean)) ({ frames := 0, cells := 0, slots := 0, locals := 0 }) (PP D cI cQ cM cR [.int p0] []) (QP (some (.int (rowi p0)))) 0 0 (fun _ => False) := by
  refine Met.ofW (cc := cX12_isRow) (maxL := 1) (ret := (some .boolean)) (by decide) rfl ?_
  intro p e s m args below meth c s₁ B hml hv
  obtain ⟨rfl, hP, hK⟩ := hv
  have hx := B.exec
  have hb := B.bytes
  have hr := B.returns
  have hts : ∀ w ∈ lw_all, w.before _ s = true := fun w h => atoms_spec (ws := (ws_ yX12_isRow cX12_isRow 1 (some .boolean))) B.pre w (List.mem_cons_of_mem _ h)
  have hown : s.vm.findClass RX12 = some m.cls := findClass_of_methodNamed B.named
  have hlocks := B.notSynchronized
  have hP : va_P D vwCl [] s.heap := hP
  have hl := lv_entry ([.int p0]) (n := 1) (Nat.le_of_ble_eq_true rfl)
  rw [lg_entry_eq]
  generalize (lg_sl ([.int p0]) ++ List.replicate (1 - (lg_sl ([.int p0])).length) Slot.unset).toArray = ls at hl ⊢
  have hl : lv_has ls 1 [(0, .int p0)] := hl
  refine lv_iload_n hx hb dX12_isRow_0 rfl (lv_at hl 0 rfl) ?_
  refine lv_if_lt (tgt := 13) hx hb dX12_isRow_1 (by decide) (fun c_1 => ?_) (fun c_1 => ?_)
  · refine lv_iconst (v := 0) hx hb dX12_isRow_13 (by decide) ?_
    exact W.zret hx hb hr rfl (fun t ht hW => ⟨by first | rfl | (simp only [rowi, c_1, ↓reduceIte, if_true, if_false, not_true_eq_false, not_false_eq_true]; done) | (simp [rowi, c_1]; done), ht⟩) (fun q hq => absurd hq List.not_mem_nil) dX12_isRow_14
  · refine lv_iload_n hx hb dX12_isRow_4 rfl (lv_at hl 0 rfl) ?_
    refine lv_iconst (v := 4) hx hb dX12_isRow_5 (by decide) ?_
    refine lv_icmp_ge (tgt := 13) hx hb dX12_isRow_6 (by decide) (fun c_2 => ?_) (fun c_2 => ?_)
    · refine lv_iconst (v := 0) hx hb dX12_isRow_13 (by decide) ?_
      exact W.zret hx hb hr rfl (fun t ht hW => ⟨by first | rfl | (simp only [rowi, c_1, c_2, ↓reduceIte, if_true, if_false, not_true_eq_false, not_false_eq_true]; done) | (simp [rowi, c_1, c_2]; done), ht⟩) (fun q hq => absurd hq List.not_mem_nil) dX12_isRow_14
    · refine lv_iconst (v := 1) hx hb dX12_isRow_9 (by decide) ?_
      refine lv_goto (tgt := 14) hx hb dX12_isRow_10 (by decide) ?_
      exact W.zret hx hb hr rfl (fun t ht hW => ⟨by first | rfl | (simp only [rowi, c_1, c_2, ↓reduceIte, if_true, if_false, not_true_eq_false, not_false_eq_true]; done) | (simp [rowi, c_1, c_2]; done), ht⟩) (fun q hq => absurd hq List.not_mem_nil) dX12_isRow_14
theorem dX12_isDelegate_0 : decode cX12_isDelegate 0 = .ok (.iload_n 1, 1) := by decide +kernel
theorem dX12_isDelegate_1 : decode cX12_isDelegate 1 = .ok (.ifCond .lt 15, 3) := by decide +kernel
theorem dX12_isDelegate_4 : decode cX12_isDelegate 4 = .ok (.iload_n 1, 1) := by decide +kernel
theorem dX12_isDelegate_5 : decode cX12_isDelegate 5 = .ok (.aload_n 0, 1) := by decide +kernel
theorem dX12_isDelegate_6 : decode cX12_isDelegate 6 = .ok (.getfield 115, 3) := by decide +kernel
theorem dX12_isDelegate_9 : decode cX12_isDelegate 9 = .ok (.if_icmp .ge 7, 3) := by decide +kernel
theorem dX12_isDelegate_16 : decode cX12_isDelegate 16 = .ok (.iconst 0, 1) := by decide +kernel
theorem dX12_isDelegate_17 : decode cX12_isDelegate 17 = .ok (.ireturn, 1) := by decide +kernel
set_option maxRecDepth 100000 in
theorem q_1023 : (.fieldLink RX12 115 "AssemblyChairModel" "delegates" "I") ∈ lw_all := List.mem_filter.mpr ⟨List.mem_of_getElem? (i := 1023) (by decide +kernel), by decide +kernel⟩
set_option maxHeartbeats 4000000 in
set_option maxRecDepth 100000 in
theorem c_X12_isDelegate (l : Launch) (D : va_G) (cI cQ cM cR : ClassId) (m0 : Nat) (gweight : Nat) (gpresent : Nat) (gspeeches : Nat) (gbuffer : Nat) (gstate : Nat) (gplace : Nat) (gmover : Nat) (gpart : Nat) (gamended : Nat) (gmany : Nat) (gclause : Nat) (gfirstMany : Nat) (gfirstClause : Nat) (gresolution : Nat) (gmotion : Nat) (gaway : Nat) (gawayMany : Nat) (gawayOrder : Nat) (gtable : Nat) (gcommittee : Nat) (glone : Nat) (gentry : Nat) (gchange : Nat) (gyesBy : Nat) (gnoBy : Nat) (gdraft : Nat) (grow : Nat) (growMany : Nat) (growFloats : Nat) (gsaved : Nat) (p0 : Int32) : Met l yX12_isDelegate (ws_ yX12_isDelegate cX12_isDelegate 2 (some .boolean)) ({ frames := 0, cells := 0, slots := 0, locals := 0 }) (PP D cI cQ cM cR [.ref m0, .int p0] [(m0, .inr (12, [.ref gweight, .ref gpresent, .ref gspeeches, .int 0, .int 50, .int 0, .int 0, .ref gbuffer, .ref gstate, .ref gplace, .ref gmover, .ref gpart, .ref gamended, .ref gmany, .ref gclause, .ref gfirstMany, .ref gfirstClause, .int 0, .int 0, .int 0, .int (-1), .ref gresolution, .ref gmotion, .ref gaway, .ref gawayMany, .ref gawayOrder, .ref gtable, .ref gcommittee, .int 0, .int 0, .int 0, .int 0, .int 0, .int 0, .int 0, .int 0, .int (-5), .int 0, .int 0, .ref glone, .int 0, .ref gentry, .ref gchange, .int 0, .int (-1), .int 0, .int 0, .ref gyesBy, .ref gnoBy, .int 0, .int 0, .int 0, .int 0, .int 0, .int 0, .ref gdraft, .ref grow, .ref growMany, .ref growFloats, .ref gsaved, .int 0, .int 0, .int 0]))]) (QP (some (.int 0))) 0 0 (fun _ => False) := by
  refine Met.ofW (cc := cX12_isDelegate) (maxL := 2) (ret := (some .boolean)) (by decide) rfl ?_
  intro p e s m args below meth c s₁ B hml hv
  obtain ⟨rfl, hP, hK⟩ := hv
  have hx := B.exec
  have hb := B.bytes
  have hr := B.returns
  have hts : ∀ w ∈ lw_all, w.before _ s = true := fun w h => atoms_spec (ws := (ws_ yX12_isDelegate cX12_isDelegate 2 (some .boolean))) B.pre w (List.mem_cons_of_mem _ h)
  have hown : s.vm.findClass RX12 = some m.cls := findClass_of_methodNamed B.named
  have hlocks := B.notSynchronized
  have hP : va_P D vwCl [(m0, .inr (12, [.ref gweight, .ref gpresent, .ref gspeeches, .int 0, .int 50, .int 0, .int 0, .ref gbuffer, .ref gstate, .ref gplace, .ref gmover, .ref gpart, .ref gamended, .ref gmany, .ref gclause, .ref gfirstMany, .ref gfirstClause, .int 0, .int 0, .int 0, .int (-1), .ref gresolution, .ref gmotion, .ref gaway, .ref gawayMany, .ref gawayOrder, .ref gtable, .ref gcommittee, .int 0, .int 0, .int 0, .int 0, .int 0, .int 0, .int 0, .int 0, .int (-5), .int 0, .int 0, .ref glone, .int 0, .ref gentry, .ref gchange, .int 0, .int (-1), .int 0, .int 0, .ref gyesBy, .ref gnoBy, .int 0, .int 0, .int 0, .int 0, .int 0, .int 0, .ref gdraft, .ref grow, .ref growMany, .ref growFloats, .ref gsaved, .int 0, .int 0, .int 0]))] s.heap := hP
  have hl := lv_entry ([.ref m0, .int p0]) (n := 2) (Nat.le_of_ble_eq_true rfl)
  rw [lg_entry_eq]
  generalize (lg_sl ([.ref m0, .int p0]) ++ List.replicate (2 - (lg_sl ([.ref m0, .int p0])).length) Slot.unset).toArray = ls at hl ⊢
  have hl : lv_has ls 2 [(0, .ref m0), (1, .int p0)] := hl
  refine lv_iload_n hx hb dX12_isDelegate_0 rfl (lv_at hl 1 rfl) ?_
  refine lv_if_lt (tgt := 16) hx hb dX12_isDelegate_1 (by decide) (fun c_1 => ?_) (fun c_1 => ?_)
  · refine lv_iconst (v := 0) hx hb dX12_isDelegate_16 (by decide) ?_
    exact W.zret hx hb hr rfl (fun t ht hW => ⟨rfl, ht⟩) (fun q hq => absurd hq List.not_mem_nil) dX12_isDelegate_17
  · refine lv_iload_n hx hb dX12_isDelegate_4 rfl (lv_at hl 1 rfl) ?_
    refine lv_aload_n hx hb dX12_isDelegate_5 rfl (lv_at hl 0 rfl) ?_
    refine va_get (D := D) (ci := 12) (v := .int 0) (C := RX12) (T := TX12) (N := 63) hx hb hts in_X12 hown hK hP 0 rfl rfl 3 (by decide) (hts _ q_1023) (fun _ h9 => h9) rfl dX12_isDelegate_6 ?_
    refine lv_icmp_ge (tgt := 16) hx hb dX12_isDelegate_9 (by decide) (fun _ => ?_) (fun c9 => absurd (Int32.not_lt.mp c_1) c9)
    refine lv_iconst (v := 0) hx hb dX12_isDelegate_16 (by decide) ?_
    exact W.zret hx hb hr rfl (fun t ht hW => ⟨rfl, ht⟩) (fun q hq => absurd hq List.not_mem_nil) dX12_isDelegate_17
theorem dX12_isQuestion_0 : decode cX12_isQuestion 0 = .ok (.iload_n 1, 1) := by decide +kernel
theorem dX12_isQuestion_1 : decode cX12_isQuestion 1 = .ok (.ifCond .lt 15, 3) := by decide +kernel
theorem dX12_isQuestion_4 : decode cX12_isQuestion 4 = .ok (.iload_n 1, 1) := by decide +kernel
theorem dX12_isQuestion_5 : decode cX12_isQuestion 5 = .ok (.aload_n 0, 1) := by decide +kernel
theorem dX12_isQuestion_6 : decode cX12_isQuestion 6 = .ok (.getfield 138, 3) := by decide +kernel
theorem dX12_isQuestion_9 : decode cX12_isQuestion 9 = .ok (.if_icmp .ge 7, 3) := by decide +kernel
theorem dX12_isQuestion_16 : decode cX12_isQuestion 16 = .ok (.iconst 0, 1) := by decide +kernel
theorem dX12_isQuestion_17 : decode cX12_isQuestion 17 = .ok (.ireturn, 1) := by decide +kernel
set_option maxRecDepth 100000 in
theorem q_1038 : (.fieldLink RX12 138 "AssemblyChairModel" "questions" "I") ∈ lw_all := List.mem_filter.mpr ⟨List.mem_of_getElem? (i := 1038) (by decide +kernel), by decide +kernel⟩
set_option maxHeartbeats 4000000 in
set_option maxRecDepth 100000 in
theorem c_X12_isQuestion (l : Launch) (D : va_G) (cI cQ cM cR : ClassId) (m0 : Nat) (gweight : Nat) (gpresent : Nat) (gspeeches : Nat) (gbuffer : Nat) (gstate : Nat) (gplace : Nat) (gmover : Nat) (gpart : Nat) (gamended : Nat) (gmany : Nat) (gclause : Nat) (gfirstMany : Nat) (gfirstClause : Nat) (gresolution : Nat) (gmotion : Nat) (gaway : Nat) (gawayMany : Nat) (gawayOrder : Nat) (gtable : Nat) (gcommittee : Nat) (glone : Nat) (gentry : Nat) (gchange : Nat) (gyesBy : Nat) (gnoBy : Nat) (gdraft : Nat) (grow : Nat) (growMany : Nat) (growFloats : Nat) (gsaved : Nat) (p0 : Int32) : Met l yX12_isQuestion (ws_ yX12_isQuestion cX12_isQuestion 2 (some .boolean)) ({ frames := 0, cells := 0, slots := 0, locals := 0 }) (PP D cI cQ cM cR [.ref m0, .int p0] [(m0, .inr (12, [.ref gweight, .ref gpresent, .ref gspeeches, .int 0, .int 50, .int 0, .int 0, .ref gbuffer, .ref gstate, .ref gplace, .ref gmover, .ref gpart, .ref gamended, .ref gmany, .ref gclause, .ref gfirstMany, .ref gfirstClause, .int 0, .int 0, .int 0, .int (-1), .ref gresolution, .ref gmotion, .ref gaway, .ref gawayMany, .ref gawayOrder, .ref gtable, .ref gcommittee, .int 0, .int 0, .int 0, .int 0, .int 0, .int 0, .int 0, .int 0, .int (-5), .int 0, .int 0, .ref glone, .int 0, .ref gentry, .ref gchange, .int 0, .int (-1), .int 0, .int 0, .ref gyesBy, .ref gnoBy, .int 0, .int 0, .int 0, .int 0, .int 0, .int 0, .ref gdraft, .ref grow, .ref growMany, .ref growFloats, .ref gsaved, .int 0, .int 0, .int 0]))]) (QP (some (.int 0))) 0 0 (fun _ => False) := by
  refine Met.ofW (cc := cX12_isQuestion) (maxL := 2) (ret := (some .boolean)) (by decide) rfl ?_
  intro p e s m args below meth c s₁ B hml hv
  obtain ⟨rfl, hP, hK⟩ := hv
  have hx := B.exec
  have hb := B.bytes
  have hr := B.returns
  have hts : ∀ w ∈ lw_all, w.before _ s = true := fun w h => atoms_spec (ws := (ws_ yX12_isQuestion cX12_isQuestion 2 (some .boolean))) B.pre w (List.mem_cons_of_mem _ h)
  have hown : s.vm.findClass RX12 = some m.cls := findClass_of_methodNamed B.named
  have hlocks := B.notSynchronized
  have hP : va_P D vwCl [(m0, .inr (12, [.ref gweight, .ref gpresent, .ref gspeeches, .int 0, .int 50, .int 0, .int 0, .ref gbuffer, .ref gstate, .ref gplace, .ref gmover, .ref gpart, .ref gamended, .ref gmany, .ref gclause, .ref gfirstMany, .ref gfirstClause, .int 0, .int 0, .int 0, .int (-1), .ref gresolution, .ref gmotion, .ref gaway, .ref gawayMany, .ref gawayOrder, .ref gtable, .ref gcommittee, .int 0, .int 0, .int 0, .int 0, .int 0, .int 0, .int 0, .int 0, .int (-5), .int 0, .int 0, .ref glone, .int 0, .ref gentry, .ref gchange, .int 0, .int (-1), .int 0, .int 0, .ref gyesBy, .ref gnoBy, .int 0, .int 0, .int 0, .int 0, .int 0, .int 0, .ref gdraft, .ref grow, .ref growMany, .ref growFloats, .ref gsaved, .int 0, .int 0, .int 0]))] s.heap := hP
  have hl := lv_entry ([.ref m0, .int p0]) (n := 2) (Nat.le_of_ble_eq_true rfl)
  rw [lg_entry_eq]
  generalize (lg_sl ([.ref m0, .int p0]) ++ List.replicate (2 - (lg_sl ([.ref m0, .int p0])).length) Slot.unset).toArray = ls at hl ⊢
  have hl : lv_has ls 2 [(0, .ref m0), (1, .int p0)] := hl
  refine lv_iload_n hx hb dX12_isQuestion_0 rfl (lv_at hl 1 rfl) ?_
  refine lv_if_lt (tgt := 16) hx hb dX12_isQuestion_1 (by decide) (fun c_1 => ?_) (fun c_1 => ?_)
  · refine lv_iconst (v := 0) hx hb dX12_isQuestion_16 (by decide) ?_
    exact W.zret hx hb hr rfl (fun t ht hW => ⟨rfl, ht⟩) (fun q hq => absurd hq List.not_mem_nil) dX12_isQuestion_17
  · refine lv_iload_n hx hb dX12_isQuestion_4 rfl (lv_at hl 1 rfl) ?_
    refine lv_aload_n hx hb dX12_isQuestion_5 rfl (lv_at hl 0 rfl) ?_
    refine va_get (D := D) (ci := 12) (v := .int 0) (C := RX12) (T := TX12) (N := 63) hx hb hts in_X12 hown hK hP 0 rfl rfl 18 (by decide) (hts _ q_1038) (fun _ h9 => h9) rfl dX12_isQuestion_6 ?_
    refine lv_icmp_ge (tgt := 16) hx hb dX12_isQuestion_9 (by decide) (fun _ => ?_) (fun c9 => absurd (Int32.not_lt.mp c_1) c9)
    refine lv_iconst (v := 0) hx hb dX12_isQuestion_16 (by decide) ?_
    exact W.zret hx hb hr rfl (fun t ht hW => ⟨rfl, ht⟩) (fun q hq => absurd hq List.not_mem_nil) dX12_isQuestion_17
theorem dX12_weightOf_0 : decode cX12_weightOf 0 = .ok (.iconst 0, 1) := by decide +kernel
theorem dX12_weightOf_1 : decode cX12_weightOf 1 = .ok (.istore_n 3, 1) := by decide +kernel
theorem dX12_weightOf_2 : decode cX12_weightOf 2 = .ok (.iconst 0, 1) := by decide +kernel
theorem dX12_weightOf_3 : decode cX12_weightOf 3 = .ok (.istore 4, 2) := by decide +kernel
theorem dX12_weightOf_5 : decode cX12_weightOf 5 = .ok (.iload 4, 2) := by decide +kernel
theorem dX12_weightOf_7 : decode cX12_weightOf 7 = .ok (.aload_n 0, 1) := by decide +kernel
theorem dX12_weightOf_8 : decode cX12_weightOf 8 = .ok (.getfield 115, 3) := by decide +kernel
theorem dX12_weightOf_11 : decode cX12_weightOf 11 = .ok (.if_icmp .ge 47, 3) := by decide +kernel
theorem dX12_weightOf_58 : decode cX12_weightOf 58 = .ok (.iload_n 3, 1) := by decide +kernel
theorem dX12_weightOf_59 : decode cX12_weightOf 59 = .ok (.ireturn, 1) := by decide +kernel
set_option maxHeartbeats 4000000 in
set_option maxRecDepth 100000 in
theorem c_X12_weightOf (l : Launch) (D : va_G) (cI cQ cM cR : ClassId) (m0 : Nat) (gweight : Nat) (gpresent : Nat) (gspeeches : Nat) (gbuffer : Nat) (gstate : Nat) (gplace : Nat) (gmover : Nat) (gpart : Nat) (gamended : Nat) (gmany : Nat) (gclause : Nat) (gfirstMany : Nat) (gfirstClause : Nat) (gresolution : Nat) (gmotion : Nat) (gaway : Nat) (gawayMany : Nat) (gawayOrder : Nat) (gtable : Nat) (gcommittee : Nat) (glone : Nat) (gentry : Nat) (gchange : Nat) (gyesBy : Nat) (gnoBy : Nat) (gdraft : Nat) (grow : Nat) (growMany : Nat) (growFloats : Nat) (gsaved : Nat) (p0 : Int32) (p1 : Int32) : Met l yX12_weightOf (ws_ yX12_weightOf cX12_weightOf 5 (some .int)) ({ frames := 0, cells := 0, slots := 0, locals := 0 }) (PP D cI cQ cM cR [.ref m0, .int p0, .int p1] [(m0, .inr (12, [.ref gweight, .ref gpresent, .ref gspeeches, .int 0, .int 50, .int 0, .int 0, .ref gbuffer, .ref gstate, .ref gplace, .ref gmover, .ref gpart, .ref gamended, .ref gmany, .ref gclause, .ref gfirstMany, .ref gfirstClause, .int 0, .int 0, .int 0, .int (-1), .ref gresolution, .ref gmotion, .ref gaway, .ref gawayMany, .ref gawayOrder, .ref gtable, .ref gcommittee, .int 0, .int 0, .int 0, .int 0, .int 0, .int 0, .int 0, .int 0, .int (-5), .int 0, .int 0, .ref glone, .int 0, .ref gentry, .ref gchange, .int 0, .int (-1), .int 0, .int 0, .ref gyesBy, .ref gnoBy, .int 0, .int 0, .int 0, .int 0, .int 0, .int 0, .ref gdraft, .ref grow, .ref growMany, .ref growFloats, .ref gsaved, .int 0, .int 0, .int 0]))]) (QP (some (.int 0))) 0 0 (fun _ => False) := by
  refine Met.ofW (cc := cX12_weightOf) (maxL := 5) (ret := (some .int)) (by decide) rfl ?_
  intro p e s m args below meth c s₁ B hml hv
  obtain ⟨rfl, hP, hK⟩ := hv
  have hx := B.exec
  have hb := B.bytes
  have hr := B.returns
  have hts : ∀ w ∈ lw_all, w.before _ s = true := fun w h => atoms_spec (ws := (ws_ yX12_weightOf cX12_weightOf 5 (some .int))) B.pre w (List.mem_cons_of_mem _ h)
  have hown : s.vm.findClass RX12 = some m.cls := findClass_of_methodNamed B.named
  have hlocks := B.notSynchronized
  have hP : va_P D vwCl [(m0, .inr (12, [.ref gweight, .ref gpresent, .ref gspeeches, .int 0, .int 50, .int 0, .int 0, .ref gbuffer, .ref gstate, .ref gplace, .ref gmover, .ref gpart, .ref gamended, .ref gmany, .ref gclause, .ref gfirstMany, .ref gfirstClause, .int 0, .int 0, .int 0, .int (-1), .ref gresolution, .ref gmotion, .ref gaway, .ref gawayMany, .ref gawayOrder, .ref gtable, .ref gcommittee, .int 0, .int 0, .int 0, .int 0, .int 0, .int 0, .int 0, .int 0, .int (-5), .int 0, .int 0, .ref glone, .int 0, .ref gentry, .ref gchange, .int 0, .int (-1), .int 0, .int 0, .ref gyesBy, .ref gnoBy, .int 0, .int 0, .int 0, .int 0, .int 0, .int 0, .ref gdraft, .ref grow, .ref growMany, .ref growFloats, .ref gsaved, .int 0, .int 0, .int 0]))] s.heap := hP
  have hl := lv_entry ([.ref m0, .int p0, .int p1]) (n := 5) (Nat.le_of_ble_eq_true rfl)
  rw [lg_entry_eq]
  generalize (lg_sl ([.ref m0, .int p0, .int p1]) ++ List.replicate (5 - (lg_sl ([.ref m0, .int p0, .int p1])).length) Slot.unset).toArray = ls at hl ⊢
  have hl : lv_has ls 5 [(0, .ref m0), (1, .int p0), (2, .int p1)] := hl
  refine lv_iconst (v := 0) hx hb dX12_weightOf_0 (by decide) ?_
  refine lv_istore_n (lv' := [(3, .int 0), (0, .ref m0), (1, .int p0), (2, .int p1)]) hx hb dX12_weightOf_1 rfl hl (by decide) rfl (fun ls hl => ?_)
  refine lv_iconst (v := 0) hx hb dX12_weightOf_2 (by decide) ?_
  refine lv_istore (lv' := [(4, .int 0), (3, .int 0), (0, .ref m0), (1, .int p0), (2, .int p1)]) hx hb dX12_weightOf_3 hl (by decide) rfl (fun ls hl => ?_)
  refine lv_iload hx hb dX12_weightOf_5 (lv_at hl 0 rfl) ?_
  refine lv_aload_n hx hb dX12_weightOf_7 rfl (lv_at hl 2 rfl) ?_
  refine va_get (D := D) (ci := 12) (v := .int 0) (C := RX12) (T := TX12) (N := 63) hx hb hts in_X12 hown hK hP 0 rfl rfl 3 (by decide) (hts _ q_1023) (fun _ h9 => h9) rfl dX12_weightOf_8 ?_
  refine lv_icmp_ge (tgt := 58) hx hb dX12_weightOf_11 (by decide) (fun _ => ?_) (fun c9 => absurd (by decide) c9)
  refine lv_iload_n hx hb dX12_weightOf_58 rfl (lv_at hl 1 rfl) ?_
  exact W.iret hx hb hr (fun t ht hW => ⟨rfl, ht⟩) (fun q hq => absurd hq List.not_mem_nil) dX12_weightOf_59
theorem dX12_presentWeight_0 : decode cX12_presentWeight 0 = .ok (.aload_n 0, 1) := by decide +kernel
theorem dX12_presentWeight_1 : decode cX12_presentWeight 1 = .ok (.iconst (-1), 1) := by decide +kernel
theorem dX12_presentWeight_2 : decode cX12_presentWeight 2 = .ok (.iconst 1, 1) := by decide +kernel
theorem dX12_presentWeight_3 : decode cX12_presentWeight 3 = .ok (.invokevirtual 122, 3) := by decide +kernel
theorem dX12_presentWeight_6 : decode cX12_presentWeight 6 = .ok (.ireturn, 1) := by decide +kernel
set_option maxRecDepth 100000 in
theorem q_1259 : (.code yX12_weightOf cX12_weightOf 5 (some .int)) ∈ lw_all := List.mem_filter.mpr ⟨List.mem_of_getElem? (i := 1259) (rfl), by decide +kernel⟩
set_option maxRecDepth 100000 in
theorem q_76 : (.initialized RX12) ∈ lw_all := List.mem_filter.mpr ⟨List.mem_of_getElem? (i := 76) (by decide +kernel), by decide +kernel⟩
set_option maxRecDepth 100000 in
theorem q_1258 : (.instanceMethod yX12_weightOf) ∈ lw_all := List.mem_filter.mpr ⟨List.mem_of_getElem? (i := 1258) (by decide +kernel), by decide +kernel⟩
set_option maxRecDepth 100000 in
theorem q_1256 : (.methodLink RX12 122 yX12_weightOf) ∈ lw_all := List.mem_filter.mpr ⟨List.mem_of_getElem? (i := 1256) (by decide +kernel), by decide +kernel⟩
set_option maxRecDepth 100000 in
theorem q_26 : (.selects RX12 yX12_weightOf yX12_weightOf) ∈ lw_all := List.mem_filter.mpr ⟨List.mem_of_getElem? (i := 26) (by decide +kernel), by decide +kernel⟩
set_option maxHeartbeats 4000000 in
set_option maxRecDepth 100000 in
theorem c_X12_presentWeight (l : Launch) (D : va_G) (cI cQ cM cR : ClassId) (m0 : Nat) (gweight : Nat) (gpresent : Nat) (gspeeches : Nat) (gbuffer : Nat) (gstate : Nat) (gplace : Nat) (gmover : Nat) (gpart : Nat) (gamended : Nat) (gmany : Nat) (gclause : Nat) (gfirstMany : Nat) (gfirstClause : Nat) (gresolution : Nat) (gmotion : Nat) (gaway : Nat) (gawayMany : Nat) (gawayOrder : Nat) (gtable : Nat) (gcommittee : Nat) (glone : Nat) (gentry : Nat) (gchange : Nat) (gyesBy : Nat) (gnoBy : Nat) (gdraft : Nat) (grow : Nat) (growMany : Nat) (growFloats : Nat) (gsaved : Nat) : Met l yX12_presentWeight (ws_ yX12_presentWeight cX12_presentWeight 1 (some .int)) ({ frames := 1, cells := 0, slots := 0, locals := 24 }) (PP D cI cQ cM cR [.ref m0] [(m0, .inr (12, [.ref gweight, .ref gpresent, .ref gspeeches, .int 0, .int 50, .int 0, .int 0, .ref gbuffer, .ref gstate, .ref gplace, .ref gmover, .ref gpart, .ref gamended, .ref gmany, .ref gclause, .ref gfirstMany, .ref gfirstClause, .int 0, .int 0, .int 0, .int (-1), .ref gresolution, .ref gmotion, .ref gaway, .ref gawayMany, .ref gawayOrder, .ref gtable, .ref gcommittee, .int 0, .int 0, .int 0, .int 0, .int 0, .int 0, .int 0, .int 0, .int (-5), .int 0, .int 0, .ref glone, .int 0, .ref gentry, .ref gchange, .int 0, .int (-1), .int 0, .int 0, .ref gyesBy, .ref gnoBy, .int 0, .int 0, .int 0, .int 0, .int 0, .int 0, .ref gdraft, .ref grow, .ref growMany, .ref growFloats, .ref gsaved, .int 0, .int 0, .int 0]))]) (QP (some (.int 0))) 0 0 (fun _ => False) := by
  refine Met.ofW (cc := cX12_presentWeight) (maxL := 1) (ret := (some .int)) (by decide) rfl ?_
  intro p e s m args below meth c s₁ B hml hv
  obtain ⟨rfl, hP, hK⟩ := hv
  have hx := B.exec
  have hb := B.bytes
  have hr := B.returns
  have hts : ∀ w ∈ lw_all, w.before _ s = true := fun w h => atoms_spec (ws := (ws_ yX12_presentWeight cX12_presentWeight 1 (some .int))) B.pre w (List.mem_cons_of_mem _ h)
  have hown : s.vm.findClass RX12 = some m.cls := findClass_of_methodNamed B.named
  have hlocks := B.notSynchronized
  have hP : va_P D vwCl [(m0, .inr (12, [.ref gweight, .ref gpresent, .ref gspeeches, .int 0, .int 50, .int 0, .int 0, .ref gbuffer, .ref gstate, .ref gplace, .ref gmover, .ref gpart, .ref gamended, .ref gmany, .ref gclause, .ref gfirstMany, .ref gfirstClause, .int 0, .int 0, .int 0, .int (-1), .ref gresolution, .ref gmotion, .ref gaway, .ref gawayMany, .ref gawayOrder, .ref gtable, .ref gcommittee, .int 0, .int 0, .int 0, .int 0, .int 0, .int 0, .int 0, .int 0, .int (-5), .int 0, .int 0, .ref glone, .int 0, .ref gentry, .ref gchange, .int 0, .int (-1), .int 0, .int 0, .ref gyesBy, .ref gnoBy, .int 0, .int 0, .int 0, .int 0, .int 0, .int 0, .ref gdraft, .ref grow, .ref growMany, .ref growFloats, .ref gsaved, .int 0, .int 0, .int 0]))] s.heap := hP
  have hl := lv_entry ([.ref m0]) (n := 1) (Nat.le_of_ble_eq_true rfl)
  rw [lg_entry_eq]
  generalize (lg_sl ([.ref m0]) ++ List.replicate (1 - (lg_sl ([.ref m0])).length) Slot.unset).toArray = ls at hl ⊢
  have hl : lv_has ls 1 [(0, .ref m0)] := hl
  refine lv_aload_n hx hb dX12_presentWeight_0 rfl (lv_at hl 0 rfl) ?_
  refine lv_iconst (v := (-1)) hx hb dX12_presentWeight_1 (by decide) ?_
  refine lv_iconst (v := 1) hx hb dX12_presentWeight_2 (by decide) ?_
  refine p_call (va_runV (As := [.int (-1), .int 1]) (rest := []) ⟨hx, hb, hml, hown, hts⟩ (c_X12_weightOf l D cI cQ cM cR m0 gweight gpresent gspeeches gbuffer gstate gplace gmover gpart gamended gmany gclause gfirstMany gfirstClause gresolution gmotion gaway gawayMany gawayOrder gtable gcommittee glone gentry gchange gyesBy gnoBy gdraft grow growMany growFloats gsaved (-1) 1) (cwV 2 hts (gV q_1256 q_1258 q_26 q_76 q_1259) rfl rfl rfl (by decide +kernel) ⟨Nat.le_of_ble_eq_true rfl, Nat.le_of_ble_eq_true rfl⟩) ⟨PP_blind, va_recv hK hP (ci := 12) (q0 := 0) rfl rfl, PP_of hK (hP.sub [0] rfl)⟩ rfl rfl hl.1 rfl (lv_room (Nat.le_of_ble_eq_true rfl)) dX12_presentWeight_3 ⟨Nat.le_of_ble_eq_true rfl, Nat.le_of_ble_eq_true rfl⟩) ?_
  exact W.iret hx hb hr (fun t ht hW => ⟨rfl, ht⟩) (fun q hq => absurd hq List.not_mem_nil) dX12_presentWeight_6
theorem dX12_hasQuorum_0 : decode cX12_hasQuorum 0 = .ok (.aload_n 0, 1) := by decide +kernel
theorem dX12_hasQuorum_1 : decode cX12_hasQuorum 1 = .ok (.getfield 115, 3) := by decide +kernel
theorem dX12_hasQuorum_4 : decode cX12_hasQuorum 4 = .ok (.ifCond .le 28, 3) := by decide +kernel
theorem dX12_hasQuorum_32 : decode cX12_hasQuorum 32 = .ok (.iconst 0, 1) := by decide +kernel
theorem dX12_hasQuorum_33 : decode cX12_hasQuorum 33 = .ok (.ireturn, 1) := by decide +kernel
set_option maxHeartbeats 4000000 in
set_option maxRecDepth 100000 in
theorem c_X12_hasQuorum (l : Launch) (D : va_G) (cI cQ cM cR : ClassId) (m0 : Nat) (gweight : Nat) (gpresent : Nat) (gspeeches : Nat) (gbuffer : Nat) (gstate : Nat) (gplace : Nat) (gmover : Nat) (gpart : Nat) (gamended : Nat) (gmany : Nat) (gclause : Nat) (gfirstMany : Nat) (gfirstClause : Nat) (gresolution : Nat) (gmotion : Nat) (gaway : Nat) (gawayMany : Nat) (gawayOrder : Nat) (gtable : Nat) (gcommittee : Nat) (glone : Nat) (gentry : Nat) (gchange : Nat) (gyesBy : Nat) (gnoBy : Nat) (gdraft : Nat) (grow : Nat) (growMany : Nat) (growFloats : Nat) (gsaved : Nat) : Met l yX12_hasQuorum (ws_ yX12_hasQuorum cX12_hasQuorum 1 (some .boolean)) ({ frames := 0, cells := 0, slots := 0, locals := 0 }) (PP D cI cQ cM cR [.ref m0] [(m0, .inr (12, [.ref gweight, .ref gpresent, .ref gspeeches, .int 0, .int 50, .int 0, .int 0, .ref gbuffer, .ref gstate, .ref gplace, .ref gmover, .ref gpart, .ref gamended, .ref gmany, .ref gclause, .ref gfirstMany, .ref gfirstClause, .int 0, .int 0, .int 0, .int (-1), .ref gresolution, .ref gmotion, .ref gaway, .ref gawayMany, .ref gawayOrder, .ref gtable, .ref gcommittee, .int 0, .int 0, .int 0, .int 0, .int 0, .int 0, .int 0, .int 0, .int (-5), .int 0, .int 0, .ref glone, .int 0, .ref gentry, .ref gchange, .int 0, .int (-1), .int 0, .int 0, .ref gyesBy, .ref gnoBy, .int 0, .int 0, .int 0, .int 0, .int 0, .int 0, .ref gdraft, .ref grow, .ref growMany, .ref growFloats, .ref gsaved, .int 0, .int 0, .int 0]))]) (QP (some (.int 0))) 0 0 (fun _ => False) := by
  refine Met.ofW (cc := cX12_hasQuorum) (maxL := 1) (ret := (some .boolean)) (by decide) rfl ?_
  intro p e s m args below meth c s₁ B hml hv
  obtain ⟨rfl, hP, hK⟩ := hv
  have hx := B.exec
  have hb := B.bytes
  have hr := B.returns
  have hts : ∀ w ∈ lw_all, w.before _ s = true := fun w h => atoms_spec (ws := (ws_ yX12_hasQuorum cX12_hasQuorum 1 (some .boolean))) B.pre w (List.mem_cons_of_mem _ h)
  have hown : s.vm.findClass RX12 = some m.cls := findClass_of_methodNamed B.named
  have hlocks := B.notSynchronized
  have hP : va_P D vwCl [(m0, .inr (12, [.ref gweight, .ref gpresent, .ref gspeeches, .int 0, .int 50, .int 0, .int 0, .ref gbuffer, .ref gstate, .ref gplace, .ref gmover, .ref gpart, .ref gamended, .ref gmany, .ref gclause, .ref gfirstMany, .ref gfirstClause, .int 0, .int 0, .int 0, .int (-1), .ref gresolution, .ref gmotion, .ref gaway, .ref gawayMany, .ref gawayOrder, .ref gtable, .ref gcommittee, .int 0, .int 0, .int 0, .int 0, .int 0, .int 0, .int 0, .int 0, .int (-5), .int 0, .int 0, .ref glone, .int 0, .ref gentry, .ref gchange, .int 0, .int (-1), .int 0, .int 0, .ref gyesBy, .ref gnoBy, .int 0, .int 0, .int 0, .int 0, .int 0, .int 0, .ref gdraft, .ref grow, .ref growMany, .ref growFloats, .ref gsaved, .int 0, .int 0, .int 0]))] s.heap := hP
  have hl := lv_entry ([.ref m0]) (n := 1) (Nat.le_of_ble_eq_true rfl)
  rw [lg_entry_eq]
  generalize (lg_sl ([.ref m0]) ++ List.replicate (1 - (lg_sl ([.ref m0])).length) Slot.unset).toArray = ls at hl ⊢
  have hl : lv_has ls 1 [(0, .ref m0)] := hl
  refine lv_aload_n hx hb dX12_hasQuorum_0 rfl (lv_at hl 0 rfl) ?_
  refine va_get (D := D) (ci := 12) (v := .int 0) (C := RX12) (T := TX12) (N := 63) hx hb hts in_X12 hown hK hP 0 rfl rfl 3 (by decide) (hts _ q_1023) (fun _ h9 => h9) rfl dX12_hasQuorum_1 ?_
  refine lv_if_le (tgt := 32) hx hb dX12_hasQuorum_4 (by decide) (fun _ => ?_) (fun c9 => absurd (by decide) c9)
  refine lv_iconst (v := 0) hx hb dX12_hasQuorum_32 (by decide) ?_
  exact W.zret hx hb hr rfl (fun t ht hW => ⟨rfl, ht⟩) (fun q hq => absurd hq List.not_mem_nil) dX12_hasQuorum_33
theorem dX12_top_0 : decode cX12_top 0 = .ok (.aload_n 0, 1) := by decide +kernel
theorem dX12_top_1 : decode cX12_top 1 = .ok (.getfield 144, 3) := by decide +kernel
theorem dX12_top_4 : decode cX12_top 4 = .ok (.ifCond .ne 7, 3) := by decide +kernel
theorem dX12_top_7 : decode cX12_top 7 = .ok (.iconst (-1), 1) := by decide +kernel
theorem dX12_top_8 : decode cX12_top 8 = .ok (.goto 14, 3) := by decide +kernel
theorem dX12_top_22 : decode cX12_top 22 = .ok (.ireturn, 1) := by decide +kernel
set_option maxRecDepth 100000 in
theorem q_1048 : (.fieldLink RX12 144 "AssemblyChairModel" "motions" "I") ∈ lw_all := List.mem_filter.mpr ⟨List.mem_of_getElem? (i := 1048) (by decide +kernel), by decide +kernel⟩
set_option maxHeartbeats 4000000 in
set_option maxRecDepth 100000 in
theorem c_X12_top (l : Launch) (D : va_G) (cI cQ cM cR : ClassId) (m0 : Nat) (gweight : Nat) (gpresent : Nat) (gspeeches : Nat) (gbuffer : Nat) (gstate : Nat) (gplace : Nat) (gmover : Nat) (gpart : Nat) (gamended : Nat) (gmany : Nat) (gclause : Nat) (gfirstMany : Nat) (gfirstClause : Nat) (gresolution : Nat) (gmotion : Nat) (gaway : Nat) (gawayMany : Nat) (gawayOrder : Nat) (gtable : Nat) (gcommittee : Nat) (glone : Nat) (gentry : Nat) (gchange : Nat) (gyesBy : Nat) (gnoBy : Nat) (gdraft : Nat) (grow : Nat) (growMany : Nat) (growFloats : Nat) (gsaved : Nat) : Met l yX12_top (ws_ yX12_top cX12_top 1 (some .int)) ({ frames := 0, cells := 0, slots := 0, locals := 0 }) (PP D cI cQ cM cR [.ref m0] [(m0, .inr (12, [.ref gweight, .ref gpresent, .ref gspeeches, .int 0, .int 50, .int 0, .int 0, .ref gbuffer, .ref gstate, .ref gplace, .ref gmover, .ref gpart, .ref gamended, .ref gmany, .ref gclause, .ref gfirstMany, .ref gfirstClause, .int 0, .int 0, .int 0, .int (-1), .ref gresolution, .ref gmotion, .ref gaway, .ref gawayMany, .ref gawayOrder, .ref gtable, .ref gcommittee, .int 0, .int 0, .int 0, .int 0, .int 0, .int 0, .int 0, .int 0, .int (-5), .int 0, .int 0, .ref glone, .int 0, .ref gentry, .ref gchange, .int 0, .int (-1), .int 0, .int 0, .ref gyesBy, .ref gnoBy, .int 0, .int 0, .int 0, .int 0, .int 0, .int 0, .ref gdraft, .ref grow, .ref growMany, .ref growFloats, .ref gsaved, .int 0, .int 0, .int 0]))]) (QP (some (.int (-1)))) 0 0 (fun _ => False) := by
  refine Met.ofW (cc := cX12_top) (maxL := 1) (ret := (some .int)) (by decide) rfl ?_
  intro p e s m args below meth c s₁ B hml hv
  obtain ⟨rfl, hP, hK⟩ := hv
  have hx := B.exec
  have hb := B.bytes
  have hr := B.returns
  have hts : ∀ w ∈ lw_all, w.before _ s = true := fun w h => atoms_spec (ws := (ws_ yX12_top cX12_top 1 (some .int))) B.pre w (List.mem_cons_of_mem _ h)
  have hown : s.vm.findClass RX12 = some m.cls := findClass_of_methodNamed B.named
  have hlocks := B.notSynchronized
  have hP : va_P D vwCl [(m0, .inr (12, [.ref gweight, .ref gpresent, .ref gspeeches, .int 0, .int 50, .int 0, .int 0, .ref gbuffer, .ref gstate, .ref gplace, .ref gmover, .ref gpart, .ref gamended, .ref gmany, .ref gclause, .ref gfirstMany, .ref gfirstClause, .int 0, .int 0, .int 0, .int (-1), .ref gresolution, .ref gmotion, .ref gaway, .ref gawayMany, .ref gawayOrder, .ref gtable, .ref gcommittee, .int 0, .int 0, .int 0, .int 0, .int 0, .int 0, .int 0, .int 0, .int (-5), .int 0, .int 0, .ref glone, .int 0, .ref gentry, .ref gchange, .int 0, .int (-1), .int 0, .int 0, .ref gyesBy, .ref gnoBy, .int 0, .int 0, .int 0, .int 0, .int 0, .int 0, .ref gdraft, .ref grow, .ref growMany, .ref growFloats, .ref gsaved, .int 0, .int 0, .int 0]))] s.heap := hP
  have hl := lv_entry ([.ref m0]) (n := 1) (Nat.le_of_ble_eq_true rfl)
  rw [lg_entry_eq]
  generalize (lg_sl ([.ref m0]) ++ List.replicate (1 - (lg_sl ([.ref m0])).length) Slot.unset).toArray = ls at hl ⊢
  have hl : lv_has ls 1 [(0, .ref m0)] := hl
  refine lv_aload_n hx hb dX12_top_0 rfl (lv_at hl 0 rfl) ?_
  refine va_get (D := D) (ci := 12) (v := .int 0) (C := RX12) (T := TX12) (N := 63) hx hb hts in_X12 hown hK hP 0 rfl rfl 28 (by decide) (hts _ q_1048) (fun _ h9 => h9) rfl dX12_top_1 ?_
  refine lv_if_ne (tgt := 11) hx hb dX12_top_4 (by decide) (fun c9 => absurd (by decide) c9) (fun _ => ?_)
  refine lv_iconst (v := (-1)) hx hb dX12_top_7 (by decide) ?_
  refine lv_goto (tgt := 22) hx hb dX12_top_8 (by decide) ?_
  exact W.iret hx hb hr (fun t ht hW => ⟨rfl, ht⟩) (fun q hq => absurd hq List.not_mem_nil) dX12_top_22
theorem dX12_questionsIn_0 : decode cX12_questionsIn 0 = .ok (.iconst 0, 1) := by decide +kernel
theorem dX12_questionsIn_1 : decode cX12_questionsIn 1 = .ok (.istore_n 2, 1) := by decide +kernel
theorem dX12_questionsIn_2 : decode cX12_questionsIn 2 = .ok (.iconst 0, 1) := by decide +kernel
theorem dX12_questionsIn_3 : decode cX12_questionsIn 3 = .ok (.istore_n 3, 1) := by decide +kernel
theorem dX12_questionsIn_4 : decode cX12_questionsIn 4 = .ok (.iload_n 3, 1) := by decide +kernel
theorem dX12_questionsIn_5 : decode cX12_questionsIn 5 = .ok (.aload_n 0, 1) := by decide +kernel
theorem dX12_questionsIn_6 : decode cX12_questionsIn 6 = .ok (.getfield 138, 3) := by decide +kernel
theorem dX12_questionsIn_9 : decode cX12_questionsIn 9 = .ok (.if_icmp .ge 27, 3) := by decide +kernel
theorem dX12_questionsIn_36 : decode cX12_questionsIn 36 = .ok (.iload_n 2, 1) := by decide +kernel
theorem dX12_questionsIn_37 : decode cX12_questionsIn 37 = .ok (.ireturn, 1) := by decide +kernel
set_option maxHeartbeats 4000000 in
set_option maxRecDepth 100000 in
theorem c_X12_questionsIn (l : Launch) (D : va_G) (cI cQ cM cR : ClassId) (m0 : Nat) (gweight : Nat) (gpresent : Nat) (gspeeches : Nat) (gbuffer : Nat) (gstate : Nat) (gplace : Nat) (gmover : Nat) (gpart : Nat) (gamended : Nat) (gmany : Nat) (gclause : Nat) (gfirstMany : Nat) (gfirstClause : Nat) (gresolution : Nat) (gmotion : Nat) (gaway : Nat) (gawayMany : Nat) (gawayOrder : Nat) (gtable : Nat) (gcommittee : Nat) (glone : Nat) (gentry : Nat) (gchange : Nat) (gyesBy : Nat) (gnoBy : Nat) (gdraft : Nat) (grow : Nat) (growMany : Nat) (growFloats : Nat) (gsaved : Nat) (p0 : Int32) : Met l yX12_questionsIn (ws_ yX12_questionsIn cX12_questionsIn 4 (some .int)) ({ frames := 0, cells := 0, slots := 0, locals := 0 }) (PP D cI cQ cM cR [.ref m0, .int p0] [(m0, .inr (12, [.ref gweight, .ref gpresent, .ref gspeeches, .int 0, .int 50, .int 0, .int 0, .ref gbuffer, .ref gstate, .ref gplace, .ref gmover, .ref gpart, .ref gamended, .ref gmany, .ref gclause, .ref gfirstMany, .ref gfirstClause, .int 0, .int 0, .int 0, .int (-1), .ref gresolution, .ref gmotion, .ref gaway, .ref gawayMany, .ref gawayOrder, .ref gtable, .ref gcommittee, .int 0, .int 0, .int 0, .int 0, .int 0, .int 0, .int 0, .int 0, .int (-5), .int 0, .int 0, .ref glone, .int 0, .ref gentry, .ref gchange, .int 0, .int (-1), .int 0, .int 0, .ref gyesBy, .ref gnoBy, .int 0, .int 0, .int 0, .int 0, .int 0, .int 0, .ref gdraft, .ref grow, .ref growMany, .ref growFloats, .ref gsaved, .int 0, .int 0, .int 0]))]) (QP (some (.int 0))) 0 0 (fun _ => False) := by
  refine Met.ofW (cc := cX12_questionsIn) (maxL := 4) (ret := (some .int)) (by decide) rfl ?_
  intro p e s m args below meth c s₁ B hml hv
  obtain ⟨rfl, hP, hK⟩ := hv
  have hx := B.exec
  have hb := B.bytes
  have hr := B.returns
  have hts : ∀ w ∈ lw_all, w.before _ s = true := fun w h => atoms_spec (ws := (ws_ yX12_questionsIn cX12_questionsIn 4 (some .int))) B.pre w (List.mem_cons_of_mem _ h)
  have hown : s.vm.findClass RX12 = some m.cls := findClass_of_methodNamed B.named
  have hlocks := B.notSynchronized
  have hP : va_P D vwCl [(m0, .inr (12, [.ref gweight, .ref gpresent, .ref gspeeches, .int 0, .int 50, .int 0, .int 0, .ref gbuffer, .ref gstate, .ref gplace, .ref gmover, .ref gpart, .ref gamended, .ref gmany, .ref gclause, .ref gfirstMany, .ref gfirstClause, .int 0, .int 0, .int 0, .int (-1), .ref gresolution, .ref gmotion, .ref gaway, .ref gawayMany, .ref gawayOrder, .ref gtable, .ref gcommittee, .int 0, .int 0, .int 0, .int 0, .int 0, .int 0, .int 0, .int 0, .int (-5), .int 0, .int 0, .ref glone, .int 0, .ref gentry, .ref gchange, .int 0, .int (-1), .int 0, .int 0, .ref gyesBy, .ref gnoBy, .int 0, .int 0, .int 0, .int 0, .int 0, .int 0, .ref gdraft, .ref grow, .ref growMany, .ref growFloats, .ref gsaved, .int 0, .int 0, .int 0]))] s.heap := hP
  have hl := lv_entry ([.ref m0, .int p0]) (n := 4) (Nat.le_of_ble_eq_true rfl)
  rw [lg_entry_eq]
  generalize (lg_sl ([.ref m0, .int p0]) ++ List.replicate (4 - (lg_sl ([.ref m0, .int p0])).length) Slot.unset).toArray = ls at hl ⊢
  have hl : lv_has ls 4 [(0, .ref m0), (1, .int p0)] := hl
  refine lv_iconst (v := 0) hx hb dX12_questionsIn_0 (by decide) ?_
  refine lv_istore_n (lv' := [(2, .int 0), (0, .ref m0), (1, .int p0)]) hx hb dX12_questionsIn_1 rfl hl (by decide) rfl (fun ls hl => ?_)
  refine lv_iconst (v := 0) hx hb dX12_questionsIn_2 (by decide) ?_
  refine lv_istore_n (lv' := [(3, .int 0), (2, .int 0), (0, .ref m0), (1, .int p0)]) hx hb dX12_questionsIn_3 rfl hl (by decide) rfl (fun ls hl => ?_)
  refine lv_iload_n hx hb dX12_questionsIn_4 rfl (lv_at hl 0 rfl) ?_
  refine lv_aload_n hx hb dX12_questionsIn_5 rfl (lv_at hl 2 rfl) ?_
  refine va_get (D := D) (ci := 12) (v := .int 0) (C := RX12) (T := TX12) (N := 63) hx hb hts in_X12 hown hK hP 0 rfl rfl 18 (by decide) (hts _ q_1038) (fun _ h9 => h9) rfl dX12_questionsIn_6 ?_
  refine lv_icmp_ge (tgt := 36) hx hb dX12_questionsIn_9 (by decide) (fun _ => ?_) (fun c9 => absurd (by decide) c9)
  refine lv_iload_n hx hb dX12_questionsIn_36 rfl (lv_at hl 1 rfl) ?_
  exact W.iret hx hb hr (fun t ht hW => ⟨rfl, ht⟩) (fun q hq => absurd hq List.not_mem_nil) dX12_questionsIn_37
theorem dX12_allPending_0 : decode cX12_allPending 0 = .ok (.aload_n 0, 1) := by decide +kernel
theorem dX12_allPending_1 : decode cX12_allPending 1 = .ok (.getfield 144, 3) := by decide +kernel
theorem dX12_allPending_4 : decode cX12_allPending 4 = .ok (.aload_n 0, 1) := by decide +kernel
theorem dX12_allPending_5 : decode cX12_allPending 5 = .ok (.getfield 164, 3) := by decide +kernel
theorem dX12_allPending_8 : decode cX12_allPending 8 = .ok (.iadd, 1) := by decide +kernel
theorem dX12_allPending_9 : decode cX12_allPending 9 = .ok (.istore_n 1, 1) := by decide +kernel
theorem dX12_allPending_10 : decode cX12_allPending 10 = .ok (.iconst 0, 1) := by decide +kernel
theorem dX12_allPending_11 : decode cX12_allPending 11 = .ok (.istore_n 2, 1) := by decide +kernel
theorem dX12_allPending_12 : decode cX12_allPending 12 = .ok (.iload_n 2, 1) := by decide +kernel
theorem dX12_allPending_13 : decode cX12_allPending 13 = .ok (.aload_n 0, 1) := by decide +kernel
theorem dX12_allPending_14 : decode cX12_allPending 14 = .ok (.getfield 138, 3) := by decide +kernel
theorem dX12_allPending_17 : decode cX12_allPending 17 = .ok (.if_icmp .ge 36, 3) := by decide +kernel
theorem dX12_allPending_53 : decode cX12_allPending 53 = .ok (.iload_n 1, 1) := by decide +kernel
theorem dX12_allPending_54 : decode cX12_allPending 54 = .ok (.ireturn, 1) := by decide +kernel
set_option maxRecDepth 100000 in
theorem q_1060 : (.fieldLink RX12 164 "AssemblyChairModel" "lones" "I") ∈ lw_all := List.mem_filter.mpr ⟨List.mem_of_getElem? (i := 1060) (by decide +kernel), by decide +kernel⟩
set_option maxHeartbeats 4000000 in
set_option maxRecDepth 100000 in
theorem c_X12_allPending (l : Launch) (D : va_G) (cI cQ cM cR : ClassId) (m0 : Nat) (gweight : Nat) (gpresent : Nat) (gspeeches : Nat) (gbuffer : Nat) (gstate : Nat) (gplace : Nat) (gmover : Nat) (gpart : Nat) (gamended : Nat) (gmany : Nat) (gclause : Nat) (gfirstMany : Nat) (gfirstClause : Nat) (gresolution : Nat) (gmotion : Nat) (gaway : Nat) (gawayMany : Nat) (gawayOrder : Nat) (gtable : Nat) (gcommittee : Nat) (glone : Nat) (gentry : Nat) (gchange : Nat) (gyesBy : Nat) (gnoBy : Nat) (gdraft : Nat) (grow : Nat) (growMany : Nat) (growFloats : Nat) (gsaved : Nat) : Met l yX12_allPending (ws_ yX12_allPending cX12_allPending 3 (some .int)) ({ frames := 0, cells := 0, slots := 0, locals := 0 }) (PP D cI cQ cM cR [.ref m0] [(m0, .inr (12, [.ref gweight, .ref gpresent, .ref gspeeches, .int 0, .int 50, .int 0, .int 0, .ref gbuffer, .ref gstate, .ref gplace, .ref gmover, .ref gpart, .ref gamended, .ref gmany, .ref gclause, .ref gfirstMany, .ref gfirstClause, .int 0, .int 0, .int 0, .int (-1), .ref gresolution, .ref gmotion, .ref gaway, .ref gawayMany, .ref gawayOrder, .ref gtable, .ref gcommittee, .int 0, .int 0, .int 0, .int 0, .int 0, .int 0, .int 0, .int 0, .int (-5), .int 0, .int 0, .ref glone, .int 0, .ref gentry, .ref gchange, .int 0, .int (-1), .int 0, .int 0, .ref gyesBy, .ref gnoBy, .int 0, .int 0, .int 0, .int 0, .int 0, .int 0, .ref gdraft, .ref grow, .ref growMany, .ref growFloats, .ref gsaved, .int 0, .int 0, .int 0]))]) (QP (some (.int 0))) 0 0 (fun _ => False) := by
  refine Met.ofW (cc := cX12_allPending) (maxL := 3) (ret := (some .int)) (by decide) rfl ?_
  intro p e s m args below meth c s₁ B hml hv
  obtain ⟨rfl, hP, hK⟩ := hv
  have hx := B.exec
  have hb := B.bytes
  have hr := B.returns
  have hts : ∀ w ∈ lw_all, w.before _ s = true := fun w h => atoms_spec (ws := (ws_ yX12_allPending cX12_allPending 3 (some .int))) B.pre w (List.mem_cons_of_mem _ h)
  have hown : s.vm.findClass RX12 = some m.cls := findClass_of_methodNamed B.named
  have hlocks := B.notSynchronized
  have hP : va_P D vwCl [(m0, .inr (12, [.ref gweight, .ref gpresent, .ref gspeeches, .int 0, .int 50, .int 0, .int 0, .ref gbuffer, .ref gstate, .ref gplace, .ref gmover, .ref gpart, .ref gamended, .ref gmany, .ref gclause, .ref gfirstMany, .ref gfirstClause, .int 0, .int 0, .int 0, .int (-1), .ref gresolution, .ref gmotion, .ref gaway, .ref gawayMany, .ref gawayOrder, .ref gtable, .ref gcommittee, .int 0, .int 0, .int 0, .int 0, .int 0, .int 0, .int 0, .int 0, .int (-5), .int 0, .int 0, .ref glone, .int 0, .ref gentry, .ref gchange, .int 0, .int (-1), .int 0, .int 0, .ref gyesBy, .ref gnoBy, .int 0, .int 0, .int 0, .int 0, .int 0, .int 0, .ref gdraft, .ref grow, .ref growMany, .ref growFloats, .ref gsaved, .int 0, .int 0, .int 0]))] s.heap := hP
  have hl := lv_entry ([.ref m0]) (n := 3) (Nat.le_of_ble_eq_true rfl)
  rw [lg_entry_eq]
  generalize (lg_sl ([.ref m0]) ++ List.replicate (3 - (lg_sl ([.ref m0])).length) Slot.unset).toArray = ls at hl ⊢
  have hl : lv_has ls 3 [(0, .ref m0)] := hl
  refine lv_aload_n hx hb dX12_allPending_0 rfl (lv_at hl 0 rfl) ?_
  refine va_get (D := D) (ci := 12) (v := .int 0) (C := RX12) (T := TX12) (N := 63) hx hb hts in_X12 hown hK hP 0 rfl rfl 28 (by decide) (hts _ q_1048) (fun _ h9 => h9) rfl dX12_allPending_1 ?_
  refine lv_aload_n hx hb dX12_allPending_4 rfl (lv_at hl 0 rfl) ?_
  refine va_get (D := D) (ci := 12) (v := .int 0) (C := RX12) (T := TX12) (N := 63) hx hb hts in_X12 hown hK hP 0 rfl rfl 40 (by decide) (hts _ q_1060) (fun _ h9 => h9) rfl dX12_allPending_5 ?_
  refine lv_iadd hx hb dX12_allPending_8 ?_
  refine lv_cst (v := 0) (by decide) ?_
  refine lv_istore_n (lv' := [(1, .int 0), (0, .ref m0)]) hx hb dX12_allPending_9 rfl hl (by decide) rfl (fun ls hl => ?_)
  refine lv_iconst (v := 0) hx hb dX12_allPending_10 (by decide) ?_
  refine lv_istore_n (lv' := [(2, .int 0), (1, .int 0), (0, .ref m0)]) hx hb dX12_allPending_11 rfl hl (by decide) rfl (fun ls hl => ?_)
  refine lv_iload_n hx hb dX12_allPending_12 rfl (lv_at hl 0 rfl) ?_
  refine lv_aload_n hx hb dX12_allPending_13 rfl (lv_at hl 2 rfl) ?_
  refine va_get (D := D) (ci := 12) (v := .int 0) (C := RX12) (T := TX12) (N := 63) hx hb hts in_X12 hown hK hP 0 rfl rfl 18 (by decide) (hts _ q_1038) (fun _ h9 => h9) rfl dX12_allPending_14 ?_
  refine lv_icmp_ge (tgt := 53) hx hb dX12_allPending_17 (by decide) (fun _ => ?_) (fun c9 => absurd (by decide) c9)
  refine lv_iload_n hx hb dX12_allPending_53 rfl (lv_at hl 1 rfl) ?_
  exact W.iret hx hb hr (fun t ht hW => ⟨rfl, ht⟩) (fun q hq => absurd hq List.not_mem_nil) dX12_allPending_54
theorem dX12_nextWaiting_0 : decode cX12_nextWaiting 0 = .ok (.iconst (-1), 1) := by decide +kernel
theorem dX12_nextWaiting_1 : decode cX12_nextWaiting 1 = .ok (.istore_n 1, 1) := by decide +kernel
theorem dX12_nextWaiting_2 : decode cX12_nextWaiting 2 = .ok (.iconst 0, 1) := by decide +kernel
theorem dX12_nextWaiting_3 : decode cX12_nextWaiting 3 = .ok (.istore_n 2, 1) := by decide +kernel
theorem dX12_nextWaiting_4 : decode cX12_nextWaiting 4 = .ok (.iload_n 2, 1) := by decide +kernel
theorem dX12_nextWaiting_5 : decode cX12_nextWaiting 5 = .ok (.aload_n 0, 1) := by decide +kernel
theorem dX12_nextWaiting_6 : decode cX12_nextWaiting 6 = .ok (.getfield 138, 3) := by decide +kernel
theorem dX12_nextWaiting_9 : decode cX12_nextWaiting 9 = .ok (.if_icmp .ge 86, 3) := by decide +kernel
theorem dX12_nextWaiting_95 : decode cX12_nextWaiting 95 = .ok (.iload_n 1, 1) := by decide +kernel
theorem dX12_nextWaiting_96 : decode cX12_nextWaiting 96 = .ok (.ireturn, 1) := by decide +kernel
set_option maxHeartbeats 4000000 in
set_option maxRecDepth 100000 in
theorem c_X12_nextWaiting (l : Launch) (D : va_G) (cI cQ cM cR : ClassId) (m0 : Nat) (gweight : Nat) (gpresent : Nat) (gspeeches : Nat) (gbuffer : Nat) (gstate : Nat) (gplace : Nat) (gmover : Nat) (gpart : Nat) (gamended : Nat) (gmany : Nat) (gclause : Nat) (gfirstMany : Nat) (gfirstClause : Nat) (gresolution : Nat) (gmotion : Nat) (gaway : Nat) (gawayMany : Nat) (gawayOrder : Nat) (gtable : Nat) (gcommittee : Nat) (glone : Nat) (gentry : Nat) (gchange : Nat) (gyesBy : Nat) (gnoBy : Nat) (gdraft : Nat) (grow : Nat) (growMany : Nat) (growFloats : Nat) (gsaved : Nat) : Met l yX12_nextWaiting (ws_ yX12_nextWaiting cX12_nextWaiting 3 (some .int)) ({ frames := 0, cells := 0, slots := 0, locals := 0 }) (PP D cI cQ cM cR [.ref m0] [(m0, .inr (12, [.ref gweight, .ref gpresent, .ref gspeeches, .int 0, .int 50, .int 0, .int 0, .ref gbuffer, .ref gstate, .ref gplace, .ref gmover, .ref gpart, .ref gamended, .ref gmany, .ref gclause, .ref gfirstMany, .ref gfirstClause, .int 0, .int 0, .int 0, .int (-1), .ref gresolution, .ref gmotion, .ref gaway, .ref gawayMany, .ref gawayOrder, .ref gtable, .ref gcommittee, .int 0, .int 0, .int 0, .int 0, .int 0, .int 0, .int 0, .int 0, .int (-5), .int 0, .int 0, .ref glone, .int 0, .ref gentry, .ref gchange, .int 0, .int (-1), .int 0, .int 0, .ref gyesBy, .ref gnoBy, .int 0, .int 0, .int 0, .int 0, .int 0, .int 0, .ref gdraft, .ref grow, .ref growMany, .ref growFloats, .ref gsaved, .int 0, .int 0, .int 0]))]) (QP (some (.int (-1)))) 0 0 (fun _ => False) := by
  refine Met.ofW (cc := cX12_nextWaiting) (maxL := 3) (ret := (some .int)) (by decide) rfl ?_
  intro p e s m args below meth c s₁ B hml hv
  obtain ⟨rfl, hP, hK⟩ := hv
  have hx := B.exec
  have hb := B.bytes
  have hr := B.returns
  have hts : ∀ w ∈ lw_all, w.before _ s = true := fun w h => atoms_spec (ws := (ws_ yX12_nextWaiting cX12_nextWaiting 3 (some .int))) B.pre w (List.mem_cons_of_mem _ h)
  have hown : s.vm.findClass RX12 = some m.cls := findClass_of_methodNamed B.named
  have hlocks := B.notSynchronized
  have hP : va_P D vwCl [(m0, .inr (12, [.ref gweight, .ref gpresent, .ref gspeeches, .int 0, .int 50, .int 0, .int 0, .ref gbuffer, .ref gstate, .ref gplace, .ref gmover, .ref gpart, .ref gamended, .ref gmany, .ref gclause, .ref gfirstMany, .ref gfirstClause, .int 0, .int 0, .int 0, .int (-1), .ref gresolution, .ref gmotion, .ref gaway, .ref gawayMany, .ref gawayOrder, .ref gtable, .ref gcommittee, .int 0, .int 0, .int 0, .int 0, .int 0, .int 0, .int 0, .int 0, .int (-5), .int 0, .int 0, .ref glone, .int 0, .ref gentry, .ref gchange, .int 0, .int (-1), .int 0, .int 0, .ref gyesBy, .ref gnoBy, .int 0, .int 0, .int 0, .int 0, .int 0, .int 0, .ref gdraft, .ref grow, .ref growMany, .ref growFloats, .ref gsaved, .int 0, .int 0, .int 0]))] s.heap := hP
  have hl := lv_entry ([.ref m0]) (n := 3) (Nat.le_of_ble_eq_true rfl)
  rw [lg_entry_eq]
  generalize (lg_sl ([.ref m0]) ++ List.replicate (3 - (lg_sl ([.ref m0])).length) Slot.unset).toArray = ls at hl ⊢
  have hl : lv_has ls 3 [(0, .ref m0)] := hl
  refine lv_iconst (v := (-1)) hx hb dX12_nextWaiting_0 (by decide) ?_
  refine lv_istore_n (lv' := [(1, .int (-1)), (0, .ref m0)]) hx hb dX12_nextWaiting_1 rfl hl (by decide) rfl (fun ls hl => ?_)
  refine lv_iconst (v := 0) hx hb dX12_nextWaiting_2 (by decide) ?_
  refine lv_istore_n (lv' := [(2, .int 0), (1, .int (-1)), (0, .ref m0)]) hx hb dX12_nextWaiting_3 rfl hl (by decide) rfl (fun ls hl => ?_)
  refine lv_iload_n hx hb dX12_nextWaiting_4 rfl (lv_at hl 0 rfl) ?_
  refine lv_aload_n hx hb dX12_nextWaiting_5 rfl (lv_at hl 2 rfl) ?_
  refine va_get (D := D) (ci := 12) (v := .int 0) (C := RX12) (T := TX12) (N := 63) hx hb hts in_X12 hown hK hP 0 rfl rfl 18 (by decide) (hts _ q_1038) (fun _ h9 => h9) rfl dX12_nextWaiting_6 ?_
  refine lv_icmp_ge (tgt := 95) hx hb dX12_nextWaiting_9 (by decide) (fun _ => ?_) (fun c9 => absurd (by decide) c9)
  refine lv_iload_n hx hb dX12_nextWaiting_95 rfl (lv_at hl 1 rfl) ?_
  exact W.iret hx hb hr (fun t ht hW => ⟨rfl, ht⟩) (fun q hq => absurd hq List.not_mem_nil) dX12_nextWaiting_96
theorem dX12_nextLone_0 : decode cX12_nextLone 0 = .ok (.iconst (-1), 1) := by decide +kernel
theorem dX12_nextLone_1 : decode cX12_nextLone 1 = .ok (.istore_n 1, 1) := by decide +kernel
theorem dX12_nextLone_2 : decode cX12_nextLone 2 = .ok (.iconst 0, 1) := by decide +kernel
theorem dX12_nextLone_3 : decode cX12_nextLone 3 = .ok (.istore_n 2, 1) := by decide +kernel
theorem dX12_nextLone_4 : decode cX12_nextLone 4 = .ok (.iload_n 2, 1) := by decide +kernel
theorem dX12_nextLone_5 : decode cX12_nextLone 5 = .ok (.aload_n 0, 1) := by decide +kernel
theorem dX12_nextLone_6 : decode cX12_nextLone 6 = .ok (.getfield 164, 3) := by decide +kernel
theorem dX12_nextLone_9 : decode cX12_nextLone 9 = .ok (.if_icmp .ge 58, 3) := by decide +kernel
theorem dX12_nextLone_67 : decode cX12_nextLone 67 = .ok (.iload_n 1, 1) := by decide +kernel
theorem dX12_nextLone_68 : decode cX12_nextLone 68 = .ok (.ireturn, 1) := by decide +kernel
set_option maxHeartbeats 4000000 in
set_option maxRecDepth 100000 in
theorem c_X12_nextLone (l : Launch) (D : va_G) (cI cQ cM cR : ClassId) (m0 : Nat) (gweight : Nat) (gpresent : Nat) (gspeeches : Nat) (gbuffer : Nat) (gstate : Nat) (gplace : Nat) (gmover : Nat) (gpart : Nat) (gamended : Nat) (gmany : Nat) (gclause : Nat) (gfirstMany : Nat) (gfirstClause : Nat) (gresolution : Nat) (gmotion : Nat) (gaway : Nat) (gawayMany : Nat) (gawayOrder : Nat) (gtable : Nat) (gcommittee : Nat) (glone : Nat) (gentry : Nat) (gchange : Nat) (gyesBy : Nat) (gnoBy : Nat) (gdraft : Nat) (grow : Nat) (growMany : Nat) (growFloats : Nat) (gsaved : Nat) : Met l yX12_nextLone (ws_ yX12_nextLone cX12_nextLone 3 (some .int)) ({ frames := 0, cells := 0, slots := 0, locals := 0 }) (PP D cI cQ cM cR [.ref m0] [(m0, .inr (12, [.ref gweight, .ref gpresent, .ref gspeeches, .int 0, .int 50, .int 0, .int 0, .ref gbuffer, .ref gstate, .ref gplace, .ref gmover, .ref gpart, .ref gamended, .ref gmany, .ref gclause, .ref gfirstMany, .ref gfirstClause, .int 0, .int 0, .int 0, .int (-1), .ref gresolution, .ref gmotion, .ref gaway, .ref gawayMany, .ref gawayOrder, .ref gtable, .ref gcommittee, .int 0, .int 0, .int 0, .int 0, .int 0, .int 0, .int 0, .int 0, .int (-5), .int 0, .int 0, .ref glone, .int 0, .ref gentry, .ref gchange, .int 0, .int (-1), .int 0, .int 0, .ref gyesBy, .ref gnoBy, .int 0, .int 0, .int 0, .int 0, .int 0, .int 0, .ref gdraft, .ref grow, .ref growMany, .ref growFloats, .ref gsaved, .int 0, .int 0, .int 0]))]) (QP (some (.int (-1)))) 0 0 (fun _ => False) := by
  refine Met.ofW (cc := cX12_nextLone) (maxL := 3) (ret := (some .int)) (by decide) rfl ?_
  intro p e s m args below meth c s₁ B hml hv
  obtain ⟨rfl, hP, hK⟩ := hv
  have hx := B.exec
  have hb := B.bytes
  have hr := B.returns
  have hts : ∀ w ∈ lw_all, w.before _ s = true := fun w h => atoms_spec (ws := (ws_ yX12_nextLone cX12_nextLone 3 (some .int))) B.pre w (List.mem_cons_of_mem _ h)
  have hown : s.vm.findClass RX12 = some m.cls := findClass_of_methodNamed B.named
  have hlocks := B.notSynchronized
  have hP : va_P D vwCl [(m0, .inr (12, [.ref gweight, .ref gpresent, .ref gspeeches, .int 0, .int 50, .int 0, .int 0, .ref gbuffer, .ref gstate, .ref gplace, .ref gmover, .ref gpart, .ref gamended, .ref gmany, .ref gclause, .ref gfirstMany, .ref gfirstClause, .int 0, .int 0, .int 0, .int (-1), .ref gresolution, .ref gmotion, .ref gaway, .ref gawayMany, .ref gawayOrder, .ref gtable, .ref gcommittee, .int 0, .int 0, .int 0, .int 0, .int 0, .int 0, .int 0, .int 0, .int (-5), .int 0, .int 0, .ref glone, .int 0, .ref gentry, .ref gchange, .int 0, .int (-1), .int 0, .int 0, .ref gyesBy, .ref gnoBy, .int 0, .int 0, .int 0, .int 0, .int 0, .int 0, .ref gdraft, .ref grow, .ref growMany, .ref growFloats, .ref gsaved, .int 0, .int 0, .int 0]))] s.heap := hP
  have hl := lv_entry ([.ref m0]) (n := 3) (Nat.le_of_ble_eq_true rfl)
  rw [lg_entry_eq]
  generalize (lg_sl ([.ref m0]) ++ List.replicate (3 - (lg_sl ([.ref m0])).length) Slot.unset).toArray = ls at hl ⊢
  have hl : lv_has ls 3 [(0, .ref m0)] := hl
  refine lv_iconst (v := (-1)) hx hb dX12_nextLone_0 (by decide) ?_
  refine lv_istore_n (lv' := [(1, .int (-1)), (0, .ref m0)]) hx hb dX12_nextLone_1 rfl hl (by decide) rfl (fun ls hl => ?_)
  refine lv_iconst (v := 0) hx hb dX12_nextLone_2 (by decide) ?_
  refine lv_istore_n (lv' := [(2, .int 0), (1, .int (-1)), (0, .ref m0)]) hx hb dX12_nextLone_3 rfl hl (by decide) rfl (fun ls hl => ?_)
  refine lv_iload_n hx hb dX12_nextLone_4 rfl (lv_at hl 0 rfl) ?_
  refine lv_aload_n hx hb dX12_nextLone_5 rfl (lv_at hl 2 rfl) ?_
  refine va_get (D := D) (ci := 12) (v := .int 0) (C := RX12) (T := TX12) (N := 63) hx hb hts in_X12 hown hK hP 0 rfl rfl 40 (by decide) (hts _ q_1060) (fun _ h9 => h9) rfl dX12_nextLone_6 ?_
  refine lv_icmp_ge (tgt := 67) hx hb dX12_nextLone_9 (by decide) (fun _ => ?_) (fun c9 => absurd (by decide) c9)
  refine lv_iload_n hx hb dX12_nextLone_67 rfl (lv_at hl 1 rfl) ?_
  exact W.iret hx hb hr (fun t ht hW => ⟨rfl, ht⟩) (fun q hq => absurd hq List.not_mem_nil) dX12_nextLone_68
theorem dX12_notMotion_0 : decode cX12_notMotion 0 = .ok (.aload_n 0, 1) := by decide +kernel
theorem dX12_notMotion_1 : decode cX12_notMotion 1 = .ok (.iload_n 1, 1) := by decide +kernel
theorem dX12_notMotion_2 : decode cX12_notMotion 2 = .ok (.invokevirtual 134, 3) := by decide +kernel
theorem dX12_notMotion_5 : decode cX12_notMotion 5 = .ok (.ifCond .eq 13, 3) := by decide +kernel
theorem dX12_notMotion_18 : decode cX12_notMotion 18 = .ok (.iconst (-1), 1) := by decide +kernel
theorem dX12_notMotion_19 : decode cX12_notMotion 19 = .ok (.ireturn, 1) := by decide +kernel
set_option maxRecDepth 100000 in
theorem q_1224 : (.code yX12_isDelegate cX12_isDelegate 2 (some .boolean)) ∈ lw_all := List.mem_filter.mpr ⟨List.mem_of_getElem? (i := 1224) (rfl), by decide +kernel⟩
set_option maxRecDepth 100000 in
theorem q_1223 : (.instanceMethod yX12_isDelegate) ∈ lw_all := List.mem_filter.mpr ⟨List.mem_of_getElem? (i := 1223) (by decide +kernel), by decide +kernel⟩
set_option maxRecDepth 100000 in
theorem q_1221 : (.methodLink RX12 134 yX12_isDelegate) ∈ lw_all := List.mem_filter.mpr ⟨List.mem_of_getElem? (i := 1221) (by decide +kernel), by decide +kernel⟩
set_option maxRecDepth 100000 in
theorem q_21 : (.selects RX12 yX12_isDelegate yX12_isDelegate) ∈ lw_all := List.mem_filter.mpr ⟨List.mem_of_getElem? (i := 21) (by decide +kernel), by decide +kernel⟩
set_option maxHeartbeats 4000000 in
set_option maxRecDepth 100000 in
theorem c_X12_notMotion (l : Launch) (D : va_G) (cI cQ cM cR : ClassId) (m0 : Nat) (gweight : Nat) (gpresent : Nat) (gspeeches : Nat) (gbuffer : Nat) (gstate : Nat) (gplace : Nat) (gmover : Nat) (gpart : Nat) (gamended : Nat) (gmany : Nat) (gclause : Nat) (gfirstMany : Nat) (gfirstClause : Nat) (gresolution : Nat) (gmotion : Nat) (gaway : Nat) (gawayMany : Nat) (gawayOrder : Nat) (gtable : Nat) (gcommittee : Nat) (glone : Nat) (gentry : Nat) (gchange : Nat) (gyesBy : Nat) (gnoBy : Nat) (gdraft : Nat) (grow : Nat) (growMany : Nat) (growFloats : Nat) (gsaved : Nat) (p0 : Int32) (p1 : Int32) (p2 : Int32) (p3 : Int32) (p4 : Int32) : Met l yX12_notMotion (ws_ yX12_notMotion cX12_notMotion 6 (some .int)) ({ frames := 1, cells := 0, slots := 0, locals := 21 }) (PP D cI cQ cM cR [.ref m0, .int p0, .int p1, .int p2, .int p3, .int p4] [(m0, .inr (12, [.ref gweight, .ref gpresent, .ref gspeeches, .int 0, .int 50, .int 0, .int 0, .ref gbuffer, .ref gstate, .ref gplace, .ref gmover, .ref gpart, .ref gamended, .ref gmany, .ref gclause, .ref gfirstMany, .ref gfirstClause, .int 0, .int 0, .int 0, .int (-1), .ref gresolution, .ref gmotion, .ref gaway, .ref gawayMany, .ref gawayOrder, .ref gtable, .ref gcommittee, .int 0, .int 0, .int 0, .int 0, .int 0, .int 0, .int 0, .int 0, .int (-5), .int 0, .int 0, .ref glone, .int 0, .ref gentry, .ref gchange, .int 0, .int (-1), .int 0, .int 0, .ref gyesBy, .ref gnoBy, .int 0, .int 0, .int 0, .int 0, .int 0, .int 0, .ref gdraft, .ref grow, .ref growMany, .ref growFloats, .ref gsaved, .int 0, .int 0, .int 0]))]) (QP (some (.int (-1)))) 0 0 (fun _ => False) := by
  refine Met.ofW (cc := cX12_notMotion) (maxL := 6) (ret := (some .int)) (by decide) rfl ?_
  intro p e s m args below meth c s₁ B hml hv
  obtain ⟨rfl, hP, hK⟩ := hv
  have hx := B.exec
  have hb := B.bytes
  have hr := B.returns
  have hts : ∀ w ∈ lw_all, w.before _ s = true := fun w h => atoms_spec (ws := (ws_ yX12_notMotion cX12_notMotion 6 (some .int))) B.pre w (List.mem_cons_of_mem _ h)
  have hown : s.vm.findClass RX12 = some m.cls := findClass_of_methodNamed B.named
  have hlocks := B.notSynchronized
  have hP : va_P D vwCl [(m0, .inr (12, [.ref gweight, .ref gpresent, .ref gspeeches, .int 0, .int 50, .int 0, .int 0, .ref gbuffer, .ref gstate, .ref gplace, .ref gmover, .ref gpart, .ref gamended, .ref gmany, .ref gclause, .ref gfirstMany, .ref gfirstClause, .int 0, .int 0, .int 0, .int (-1), .ref gresolution, .ref gmotion, .ref gaway, .ref gawayMany, .ref gawayOrder, .ref gtable, .ref gcommittee, .int 0, .int 0, .int 0, .int 0, .int 0, .int 0, .int 0, .int 0, .int (-5), .int 0, .int 0, .ref glone, .int 0, .ref gentry, .ref gchange, .int 0, .int (-1), .int 0, .int 0, .ref gyesBy, .ref gnoBy, .int 0, .int 0, .int 0, .int 0, .int 0, .int 0, .ref gdraft, .ref grow, .ref growMany, .ref growFloats, .ref gsaved, .int 0, .int 0, .int 0]))] s.heap := hP
  have hl := lv_entry ([.ref m0, .int p0, .int p1, .int p2, .int p3, .int p4]) (n := 6) (Nat.le_of_ble_eq_true rfl)
  rw [lg_entry_eq]
  generalize (lg_sl ([.ref m0, .int p0, .int p1, .int p2, .int p3, .int p4]) ++ List.replicate (6 - (lg_sl ([.ref m0, .int p0, .int p1, .int p2, .int p3, .int p4])).length) Slot.unset).toArray = ls at hl ⊢
  have hl : lv_has ls 6 [(0, .ref m0), (1, .int p0), (2, .int p1), (3, .int p2), (4, .int p3), (5, .int p4)] := hl
  refine lv_aload_n hx hb dX12_notMotion_0 rfl (lv_at hl 0 rfl) ?_
  refine lv_iload_n hx hb dX12_notMotion_1 rfl (lv_at hl 1 rfl) ?_
  refine p_call (va_runV (As := [.int p0]) (rest := []) ⟨hx, hb, hml, hown, hts⟩ (c_X12_isDelegate l D cI cQ cM cR m0 gweight gpresent gspeeches gbuffer gstate gplace gmover gpart gamended gmany gclause gfirstMany gfirstClause gresolution gmotion gaway gawayMany gawayOrder gtable gcommittee glone gentry gchange gyesBy gnoBy gdraft grow growMany growFloats gsaved p0) (cwV 1 hts (gV q_1221 q_1223 q_21 q_76 q_1224) rfl rfl rfl (by decide +kernel) ⟨Nat.le_of_ble_eq_true rfl, Nat.le_of_ble_eq_true rfl⟩) ⟨PP_blind, va_recv hK hP (ci := 12) (q0 := 0) rfl rfl, PP_of hK (hP.sub [0] rfl)⟩ rfl rfl hl.1 rfl (lv_room (Nat.le_of_ble_eq_true rfl)) dX12_notMotion_2 ⟨Nat.le_of_ble_eq_true rfl, Nat.le_of_ble_eq_true rfl⟩) ?_
  refine lv_if_eq (tgt := 18) hx hb dX12_notMotion_5 (by decide) (fun _ => ?_) (fun c9 => absurd (by decide) c9)
  refine lv_iconst (v := (-1)) hx hb dX12_notMotion_18 (by decide) ?_
  exact W.iret hx hb hr (fun t ht hW => ⟨rfl, ht⟩) (fun q hq => absurd hq List.not_mem_nil) dX12_notMotion_19
theorem dX12_presence_0 : decode cX12_presence 0 = .ok (.aload_n 0, 1) := by decide +kernel
theorem dX12_presence_1 : decode cX12_presence 1 = .ok (.iload_n 1, 1) := by decide +kernel
theorem dX12_presence_2 : decode cX12_presence 2 = .ok (.invokevirtual 134, 3) := by decide +kernel
theorem dX12_presence_5 : decode cX12_presence 5 = .ok (.ifCond .ne 5, 3) := by decide +kernel
theorem dX12_presence_8 : decode cX12_presence 8 = .ok (.iconst (-1), 1) := by decide +kernel
theorem dX12_presence_9 : decode cX12_presence 9 = .ok (.ireturn, 1) := by decide +kernel
set_option maxHeartbeats 4000000 in
set_option maxRecDepth 100000 in
theorem c_X12_presence (l : Launch) (D : va_G) (cI cQ cM cR : ClassId) (m0 : Nat) (gweight : Nat) (gpresent : Nat) (gspeeches : Nat) (gbuffer : Nat) (gstate : Nat) (gplace : Nat) (gmover : Nat) (gpart : Nat) (gamended : Nat) (gmany : Nat) (gclause : Nat) (gfirstMany : Nat) (gfirstClause : Nat) (gresolution : Nat) (gmotion : Nat) (gaway : Nat) (gawayMany : Nat) (gawayOrder : Nat) (gtable : Nat) (gcommittee : Nat) (glone : Nat) (gentry : Nat) (gchange : Nat) (gyesBy : Nat) (gnoBy : Nat) (gdraft : Nat) (grow : Nat) (growMany : Nat) (growFloats : Nat) (gsaved : Nat) (p0 : Int32) (p1 : Int32) : Met l yX12_presence (ws_ yX12_presence cX12_presence 4 (some .int)) ({ frames := 1, cells := 0, slots := 0, locals := 21 }) (PP D cI cQ cM cR [.ref m0, .int p0, .int p1] [(m0, .inr (12, [.ref gweight, .ref gpresent, .ref gspeeches, .int 0, .int 50, .int 0, .int 0, .ref gbuffer, .ref gstate, .ref gplace, .ref gmover, .ref gpart, .ref gamended, .ref gmany, .ref gclause, .ref gfirstMany, .ref gfirstClause, .int 0, .int 0, .int 0, .int (-1), .ref gresolution, .ref gmotion, .ref gaway, .ref gawayMany, .ref gawayOrder, .ref gtable, .ref gcommittee, .int 0, .int 0, .int 0, .int 0, .int 0, .int 0, .int 0, .int 0, .int (-5), .int 0, .int 0, .ref glone, .int 0, .ref gentry, .ref gchange, .int 0, .int (-1), .int 0, .int 0, .ref gyesBy, .ref gnoBy, .int 0, .int 0, .int 0, .int 0, .int 0, .int 0, .ref gdraft, .ref grow, .ref growMany, .ref growFloats, .ref gsaved, .int 0, .int 0, .int 0]))]) (QP (some (.int (-1)))) 0 0 (fun _ => False) := by
  refine Met.ofW (cc := cX12_presence) (maxL := 4) (ret := (some .int)) (by decide) rfl ?_
  intro p e s m args below meth c s₁ B hml hv
  obtain ⟨rfl, hP, hK⟩ := hv
  have hx := B.exec
  have hb := B.bytes
  have hr := B.returns
  have hts : ∀ w ∈ lw_all, w.before _ s = true := fun w h => atoms_spec (ws := (ws_ yX12_presence cX12_presence 4 (some .int))) B.pre w (List.mem_cons_of_mem _ h)
  have hown : s.vm.findClass RX12 = some m.cls := findClass_of_methodNamed B.named
  have hlocks := B.notSynchronized
  have hP : va_P D vwCl [(m0, .inr (12, [.ref gweight, .ref gpresent, .ref gspeeches, .int 0, .int 50, .int 0, .int 0, .ref gbuffer, .ref gstate, .ref gplace, .ref gmover, .ref gpart, .ref gamended, .ref gmany, .ref gclause, .ref gfirstMany, .ref gfirstClause, .int 0, .int 0, .int 0, .int (-1), .ref gresolution, .ref gmotion, .ref gaway, .ref gawayMany, .ref gawayOrder, .ref gtable, .ref gcommittee, .int 0, .int 0, .int 0, .int 0, .int 0, .int 0, .int 0, .int 0, .int (-5), .int 0, .int 0, .ref glone, .int 0, .ref gentry, .ref gchange, .int 0, .int (-1), .int 0, .int 0, .ref gyesBy, .ref gnoBy, .int 0, .int 0, .int 0, .int 0, .int 0, .int 0, .ref gdraft, .ref grow, .ref growMany, .ref growFloats, .ref gsaved, .int 0, .int 0, .int 0]))] s.heap := hP
  have hl := lv_entry ([.ref m0, .int p0, .int p1]) (n := 4) (Nat.le_of_ble_eq_true rfl)
  rw [lg_entry_eq]
  generalize (lg_sl ([.ref m0, .int p0, .int p1]) ++ List.replicate (4 - (lg_sl ([.ref m0, .int p0, .int p1])).length) Slot.unset).toArray = ls at hl ⊢
  have hl : lv_has ls 4 [(0, .ref m0), (1, .int p0), (2, .int p1)] := hl
  refine lv_aload_n hx hb dX12_presence_0 rfl (lv_at hl 0 rfl) ?_
  refine lv_iload_n hx hb dX12_presence_1 rfl (lv_at hl 1 rfl) ?_
  refine p_call (va_runV (As := [.int p0]) (rest := []) ⟨hx, hb, hml, hown, hts⟩ (c_X12_isDelegate l D cI cQ cM cR m0 gweight gpresent gspeeches gbuffer gstate gplace gmover gpart gamended gmany gclause gfirstMany gfirstClause gresolution gmotion gaway gawayMany gawayOrder gtable gcommittee glone gentry gchange gyesBy gnoBy gdraft grow growMany growFloats gsaved p0) (cwV 1 hts (gV q_1221 q_1223 q_21 q_76 q_1224) rfl rfl rfl (by decide +kernel) ⟨Nat.le_of_ble_eq_true rfl, Nat.le_of_ble_eq_true rfl⟩) ⟨PP_blind, va_recv hK hP (ci := 12) (q0 := 0) rfl rfl, PP_of hK (hP.sub [0] rfl)⟩ rfl rfl hl.1 rfl (lv_room (Nat.le_of_ble_eq_true rfl)) dX12_presence_2 ⟨Nat.le_of_ble_eq_true rfl, Nat.le_of_ble_eq_true rfl⟩) ?_
  refine lv_if_ne (tgt := 10) hx hb dX12_presence_5 (by decide) (fun c9 => absurd (by decide) c9) (fun _ => ?_)
  refine lv_iconst (v := (-1)) hx hb dX12_presence_8 (by decide) ?_
  exact W.iret hx hb hr (fun t ht hW => ⟨rfl, ht⟩) (fun q hq => absurd hq List.not_mem_nil) dX12_presence_9
theorem dX12_move_0 : decode cX12_move 0 = .ok (.aload_n 0, 1) := by decide +kernel
theorem dX12_move_1 : decode cX12_move 1 = .ok (.iload_n 1, 1) := by decide +kernel
theorem dX12_move_2 : decode cX12_move 2 = .ok (.iload_n 2, 1) := by decide +kernel
theorem dX12_move_3 : decode cX12_move 3 = .ok (.iload_n 3, 1) := by decide +kernel
theorem dX12_move_4 : decode cX12_move 4 = .ok (.iload 4, 2) := by decide +kernel
theorem dX12_move_6 : decode cX12_move 6 = .ok (.iload 5, 2) := by decide +kernel
theorem dX12_move_8 : decode cX12_move 8 = .ok (.invokevirtual 219, 3) := by decide +kernel
theorem dX12_move_11 : decode cX12_move 11 = .ok (.istore 6, 2) := by decide +kernel
theorem dX12_move_13 : decode cX12_move 13 = .ok (.iload 6, 2) := by decide +kernel
theorem dX12_move_15 : decode cX12_move 15 = .ok (.ifCond .eq 6, 3) := by decide +kernel
theorem dX12_move_18 : decode cX12_move 18 = .ok (.iload 6, 2) := by decide +kernel
theorem dX12_move_20 : decode cX12_move 20 = .ok (.ireturn, 1) := by decide +kernel
set_option maxRecDepth 100000 in
theorem q_1240 : (.code yX12_notMotion cX12_notMotion 6 (some .int)) ∈ lw_all := List.mem_filter.mpr ⟨List.mem_of_getElem? (i := 1240) (rfl), by decide +kernel⟩
set_option maxRecDepth 100000 in
theorem q_1239 : (.instanceMethod yX12_notMotion) ∈ lw_all := List.mem_filter.mpr ⟨List.mem_of_getElem? (i := 1239) (by decide +kernel), by decide +kernel⟩
set_option maxRecDepth 100000 in
theorem q_1237 : (.methodLink RX12 219 yX12_notMotion) ∈ lw_all := List.mem_filter.mpr ⟨List.mem_of_getElem? (i := 1237) (by decide +kernel), by decide +kernel⟩
set_option maxRecDepth 100000 in
theorem q_22 : (.selects RX12 yX12_notMotion yX12_notMotion) ∈ lw_all := List.mem_filter.mpr ⟨List.mem_of_getElem? (i := 22) (by decide +kernel), by decide +kernel⟩
set_option maxHeartbeats 4000000 in
set_option maxRecDepth 100000 in
theorem c_X12_move (l : Launch) (D : va_G) (cI cQ cM cR : ClassId) (m0 : Nat) (gweight : Nat) (gpresent : Nat) (gspeeches : Nat) (gbuffer : Nat) (gstate : Nat) (gplace : Nat) (gmover : Nat) (gpart : Nat) (gamended : Nat) (gmany : Nat) (gclause : Nat) (gfirstMany : Nat) (gfirstClause : Nat) (gresolution : Nat) (gmotion : Nat) (gaway : Nat) (gawayMany : Nat) (gawayOrder : Nat) (gtable : Nat) (gcommittee : Nat) (glone : Nat) (gentry : Nat) (gchange : Nat) (gyesBy : Nat) (gnoBy : Nat) (gdraft : Nat) (grow : Nat) (growMany : Nat) (growFloats : Nat) (gsaved : Nat) (p0 : Int32) (p1 : Int32) (p2 : Int32) (p3 : Int32) (p4 : Int32) : Met l yX12_move (ws_ yX12_move cX12_move 8 (some .int)) ({ frames := 2, cells := 0, slots := 0, locals := 46 }) (PP D cI cQ cM cR [.ref m0, .int p0, .int p1, .int p2, .int p3, .int p4] [(m0, .inr (12, [.ref gweight, .ref gpresent, .ref gspeeches, .int 0, .int 50, .int 0, .int 0, .ref gbuffer, .ref gstate, .ref gplace, .ref gmover, .ref gpart, .ref gamended, .ref gmany, .ref gclause, .ref gfirstMany, .ref gfirstClause, .int 0, .int 0, .int 0, .int (-1), .ref gresolution, .ref gmotion, .ref gaway, .ref gawayMany, .ref gawayOrder, .ref gtable, .ref gcommittee, .int 0, .int 0, .int 0, .int 0, .int 0, .int 0, .int 0, .int 0, .int (-5), .int 0, .int 0, .ref glone, .int 0, .ref gentry, .ref gchange, .int 0, .int (-1), .int 0, .int 0, .ref gyesBy, .ref gnoBy, .int 0, .int 0, .int 0, .int 0, .int 0, .int 0, .ref gdraft, .ref grow, .ref growMany, .ref growFloats, .ref gsaved, .int 0, .int 0, .int 0]))]) (QP (some (.int (-1)))) 0 0 (fun _ => False) := by
  refine Met.ofW (cc := cX12_move) (maxL := 8) (ret := (some .int)) (by decide) rfl ?_
  intro p e s m args below meth c s₁ B hml hv
  obtain ⟨rfl, hP, hK⟩ := hv
  have hx := B.exec
  have hb := B.bytes
  have hr := B.returns
  have hts : ∀ w ∈ lw_all, w.before _ s = true := fun w h => atoms_spec (ws := (ws_ yX12_move cX12_move 8 (some .int))) B.pre w (List.mem_cons_of_mem _ h)
  have hown : s.vm.findClass RX12 = some m.cls := findClass_of_methodNamed B.named
  have hlocks := B.notSynchronized
  have hP : va_P D vwCl [(m0, .inr (12, [.ref gweight, .ref gpresent, .ref gspeeches, .int 0, .int 50, .int 0, .int 0, .ref gbuffer, .ref gstate, .ref gplace, .ref gmover, .ref gpart, .ref gamended, .ref gmany, .ref gclause, .ref gfirstMany, .ref gfirstClause, .int 0, .int 0, .int 0, .int (-1), .ref gresolution, .ref gmotion, .ref gaway, .ref gawayMany, .ref gawayOrder, .ref gtable, .ref gcommittee, .int 0, .int 0, .int 0, .int 0, .int 0, .int 0, .int 0, .int 0, .int (-5), .int 0, .int 0, .ref glone, .int 0, .ref gentry, .ref gchange, .int 0, .int (-1), .int 0, .int 0, .ref gyesBy, .ref gnoBy, .int 0, .int 0, .int 0, .int 0, .int 0, .int 0, .ref gdraft, .ref grow, .ref growMany, .ref growFloats, .ref gsaved, .int 0, .int 0, .int 0]))] s.heap := hP
  have hl := lv_entry ([.ref m0, .int p0, .int p1, .int p2, .int p3, .int p4]) (n := 8) (Nat.le_of_ble_eq_true rfl)
  rw [lg_entry_eq]
  generalize (lg_sl ([.ref m0, .int p0, .int p1, .int p2, .int p3, .int p4]) ++ List.replicate (8 - (lg_sl ([.ref m0, .int p0, .int p1, .int p2, .int p3, .int p4])).length) Slot.unset).toArray = ls at hl ⊢
  have hl : lv_has ls 8 [(0, .ref m0), (1, .int p0), (2, .int p1), (3, .int p2), (4, .int p3), (5, .int p4)] := hl
  refine lv_aload_n hx hb dX12_move_0 rfl (lv_at hl 0 rfl) ?_
  refine lv_iload_n hx hb dX12_move_1 rfl (lv_at hl 1 rfl) ?_
  refine lv_iload_n hx hb dX12_move_2 rfl (lv_at hl 2 rfl) ?_
  refine lv_iload_n hx hb dX12_move_3 rfl (lv_at hl 3 rfl) ?_
  refine lv_iload hx hb dX12_move_4 (lv_at hl 4 rfl) ?_
  refine lv_iload hx hb dX12_move_6 (lv_at hl 5 rfl) ?_
  refine p_call (va_runV (As := [.int p0, .int p1, .int p2, .int p3, .int p4]) (rest := []) ⟨hx, hb, hml, hown, hts⟩ (c_X12_notMotion l D cI cQ cM cR m0 gweight gpresent gspeeches gbuffer gstate gplace gmover gpart gamended gmany gclause gfirstMany gfirstClause gresolution gmotion gaway gawayMany gawayOrder gtable gcommittee glone gentry gchange gyesBy gnoBy gdraft grow growMany growFloats gsaved p0 p1 p2 p3 p4) (cwV 5 hts (gV q_1237 q_1239 q_22 q_76 q_1240) rfl rfl rfl (by decide +kernel) ⟨Nat.le_of_ble_eq_true rfl, Nat.le_of_ble_eq_true rfl⟩) ⟨PP_blind, va_recv hK hP (ci := 12) (q0 := 0) rfl rfl, PP_of hK (hP.sub [0] rfl)⟩ rfl rfl hl.1 rfl (lv_room (Nat.le_of_ble_eq_true rfl)) dX12_move_8 ⟨Nat.le_of_ble_eq_true rfl, Nat.le_of_ble_eq_true rfl⟩) ?_
  refine lv_istore (lv' := [(6, .int (-1)), (0, .ref m0), (1, .int p0), (2, .int p1), (3, .int p2), (4, .int p3), (5, .int p4)]) hx hb dX12_move_11 hl (by decide) rfl (fun ls hl => ?_)
  refine lv_iload hx hb dX12_move_13 (lv_at hl 0 rfl) ?_
  refine lv_if_eq (tgt := 21) hx hb dX12_move_15 (by decide) (fun c9 => absurd c9 (by decide)) (fun _ => ?_)
  refine lv_iload hx hb dX12_move_18 (lv_at hl 0 rfl) ?_
  exact W.iret hx hb hr (fun t ht hW => ⟨rfl, ht⟩) (fun q hq => absurd hq List.not_mem_nil) dX12_move_20
theorem dX12_rule_0 : decode cX12_rule 0 = .ok (.aload_n 0, 1) := by decide +kernel
theorem dX12_rule_1 : decode cX12_rule 1 = .ok (.iload_n 1, 1) := by decide +kernel
theorem dX12_rule_2 : decode cX12_rule 2 = .ok (.iload_n 2, 1) := by decide +kernel
theorem dX12_rule_3 : decode cX12_rule 3 = .ok (.iload_n 3, 1) := by decide +kernel
theorem dX12_rule_4 : decode cX12_rule 4 = .ok (.iload 4, 2) := by decide +kernel
theorem dX12_rule_6 : decode cX12_rule 6 = .ok (.iload 5, 2) := by decide +kernel
theorem dX12_rule_8 : decode cX12_rule 8 = .ok (.invokevirtual 219, 3) := by decide +kernel
theorem dX12_rule_11 : decode cX12_rule 11 = .ok (.istore 6, 2) := by decide +kernel
theorem dX12_rule_13 : decode cX12_rule 13 = .ok (.iload 6, 2) := by decide +kernel
theorem dX12_rule_15 : decode cX12_rule 15 = .ok (.ifCond .eq 8, 3) := by decide +kernel
theorem dX12_rule_18 : decode cX12_rule 18 = .ok (.iload 6, 2) := by decide +kernel
theorem dX12_rule_20 : decode cX12_rule 20 = .ok (.goto 14, 3) := by decide +kernel
theorem dX12_rule_34 : decode cX12_rule 34 = .ok (.ireturn, 1) := by decide +kernel
set_option maxHeartbeats 4000000 in
set_option maxRecDepth 100000 in
theorem c_X12_rule (l : Launch) (D : va_G) (cI cQ cM cR : ClassId) (m0 : Nat) (gweight : Nat) (gpresent : Nat) (gspeeches : Nat) (gbuffer : Nat) (gstate : Nat) (gplace : Nat) (gmover : Nat) (gpart : Nat) (gamended : Nat) (gmany : Nat) (gclause : Nat) (gfirstMany : Nat) (gfirstClause : Nat) (gresolution : Nat) (gmotion : Nat) (gaway : Nat) (gawayMany : Nat) (gawayOrder : Nat) (gtable : Nat) (gcommittee : Nat) (glone : Nat) (gentry : Nat) (gchange : Nat) (gyesBy : Nat) (gnoBy : Nat) (gdraft : Nat) (grow : Nat) (growMany : Nat) (growFloats : Nat) (gsaved : Nat) (p0 : Int32) (p1 : Int32) (p2 : Int32) (p3 : Int32) (p4 : Int32) : Met l yX12_rule (ws_ yX12_rule cX12_rule 7 (some .int)) ({ frames := 2, cells := 0, slots := 0, locals := 46 }) (PP D cI cQ cM cR [.ref m0, .int p0, .int p1, .int p2, .int p3, .int p4] [(m0, .inr (12, [.ref gweight, .ref gpresent, .ref gspeeches, .int 0, .int 50, .int 0, .int 0, .ref gbuffer, .ref gstate, .ref gplace, .ref gmover, .ref gpart, .ref gamended, .ref gmany, .ref gclause, .ref gfirstMany, .ref gfirstClause, .int 0, .int 0, .int 0, .int (-1), .ref gresolution, .ref gmotion, .ref gaway, .ref gawayMany, .ref gawayOrder, .ref gtable, .ref gcommittee, .int 0, .int 0, .int 0, .int 0, .int 0, .int 0, .int 0, .int 0, .int (-5), .int 0, .int 0, .ref glone, .int 0, .ref gentry, .ref gchange, .int 0, .int (-1), .int 0, .int 0, .ref gyesBy, .ref gnoBy, .int 0, .int 0, .int 0, .int 0, .int 0, .int 0, .ref gdraft, .ref grow, .ref growMany, .ref growFloats, .ref gsaved, .int 0, .int 0, .int 0]))]) (QP (some (.int (-1)))) 0 0 (fun _ => False) := by
  refine Met.ofW (cc := cX12_rule) (maxL := 7) (ret := (some .int)) (by decide) rfl ?_
  intro p e s m args below meth c s₁ B hml hv
  obtain ⟨rfl, hP, hK⟩ := hv
  have hx := B.exec
  have hb := B.bytes
  have hr := B.returns
  have hts : ∀ w ∈ lw_all, w.before _ s = true := fun w h => atoms_spec (ws := (ws_ yX12_rule cX12_rule 7 (some .int))) B.pre w (List.mem_cons_of_mem _ h)
  have hown : s.vm.findClass RX12 = some m.cls := findClass_of_methodNamed B.named
  have hlocks := B.notSynchronized
  have hP : va_P D vwCl [(m0, .inr (12, [.ref gweight, .ref gpresent, .ref gspeeches, .int 0, .int 50, .int 0, .int 0, .ref gbuffer, .ref gstate, .ref gplace, .ref gmover, .ref gpart, .ref gamended, .ref gmany, .ref gclause, .ref gfirstMany, .ref gfirstClause, .int 0, .int 0, .int 0, .int (-1), .ref gresolution, .ref gmotion, .ref gaway, .ref gawayMany, .ref gawayOrder, .ref gtable, .ref gcommittee, .int 0, .int 0, .int 0, .int 0, .int 0, .int 0, .int 0, .int 0, .int (-5), .int 0, .int 0, .ref glone, .int 0, .ref gentry, .ref gchange, .int 0, .int (-1), .int 0, .int 0, .ref gyesBy, .ref gnoBy, .int 0, .int 0, .int 0, .int 0, .int 0, .int 0, .ref gdraft, .ref grow, .ref growMany, .ref growFloats, .ref gsaved, .int 0, .int 0, .int 0]))] s.heap := hP
  have hl := lv_entry ([.ref m0, .int p0, .int p1, .int p2, .int p3, .int p4]) (n := 7) (Nat.le_of_ble_eq_true rfl)
  rw [lg_entry_eq]
  generalize (lg_sl ([.ref m0, .int p0, .int p1, .int p2, .int p3, .int p4]) ++ List.replicate (7 - (lg_sl ([.ref m0, .int p0, .int p1, .int p2, .int p3, .int p4])).length) Slot.unset).toArray = ls at hl ⊢
  have hl : lv_has ls 7 [(0, .ref m0), (1, .int p0), (2, .int p1), (3, .int p2), (4, .int p3), (5, .int p4)] := hl
  refine lv_aload_n hx hb dX12_rule_0 rfl (lv_at hl 0 rfl) ?_
  refine lv_iload_n hx hb dX12_rule_1 rfl (lv_at hl 1 rfl) ?_
  refine lv_iload_n hx hb dX12_rule_2 rfl (lv_at hl 2 rfl) ?_
  refine lv_iload_n hx hb dX12_rule_3 rfl (lv_at hl 3 rfl) ?_
  refine lv_iload hx hb dX12_rule_4 (lv_at hl 4 rfl) ?_
  refine lv_iload hx hb dX12_rule_6 (lv_at hl 5 rfl) ?_
  refine p_call (va_runV (As := [.int p0, .int p1, .int p2, .int p3, .int p4]) (rest := []) ⟨hx, hb, hml, hown, hts⟩ (c_X12_notMotion l D cI cQ cM cR m0 gweight gpresent gspeeches gbuffer gstate gplace gmover gpart gamended gmany gclause gfirstMany gfirstClause gresolution gmotion gaway gawayMany gawayOrder gtable gcommittee glone gentry gchange gyesBy gnoBy gdraft grow growMany growFloats gsaved p0 p1 p2 p3 p4) (cwV 5 hts (gV q_1237 q_1239 q_22 q_76 q_1240) rfl rfl rfl (by decide +kernel) ⟨Nat.le_of_ble_eq_true rfl, Nat.le_of_ble_eq_true rfl⟩) ⟨PP_blind, va_recv hK hP (ci := 12) (q0 := 0) rfl rfl, PP_of hK (hP.sub [0] rfl)⟩ rfl rfl hl.1 rfl (lv_room (Nat.le_of_ble_eq_true rfl)) dX12_rule_8 ⟨Nat.le_of_ble_eq_true rfl, Nat.le_of_ble_eq_true rfl⟩) ?_
  refine lv_istore (lv' := [(6, .int (-1)), (0, .ref m0), (1, .int p0), (2, .int p1), (3, .int p2), (4, .int p3), (5, .int p4)]) hx hb dX12_rule_11 hl (by decide) rfl (fun ls hl => ?_)
  refine lv_iload hx hb dX12_rule_13 (lv_at hl 0 rfl) ?_
  refine lv_if_eq (tgt := 23) hx hb dX12_rule_15 (by decide) (fun c9 => absurd c9 (by decide)) (fun _ => ?_)
  refine lv_iload hx hb dX12_rule_18 (lv_at hl 0 rfl) ?_
  refine lv_goto (tgt := 34) hx hb dX12_rule_20 (by decide) ?_
  exact W.iret hx hb hr (fun t ht hW => ⟨rfl, ht⟩) (fun q hq => absurd hq List.not_mem_nil) dX12_rule_34
theorem dX12_decide_0 : decode cX12_decide 0 = .ok (.iload_n 1, 1) := by decide +kernel
theorem dX12_decide_1 : decode cX12_decide 1 = .ok (.ifCond .lt 31, 3) := by decide +kernel
theorem dX12_decide_4 : decode cX12_decide 4 = .ok (.iload_n 2, 1) := by decide +kernel
theorem dX12_decide_5 : decode cX12_decide 5 = .ok (.ifCond .lt 27, 3) := by decide +kernel
theorem dX12_decide_8 : decode cX12_decide 8 = .ok (.iload_n 1, 1) := by decide +kernel
theorem dX12_decide_9 : decode cX12_decide 9 = .ok (.aload_n 0, 1) := by decide +kernel
theorem dX12_decide_10 : decode cX12_decide 10 = .ok (.getfield 115, 3) := by decide +kernel
theorem dX12_decide_13 : decode cX12_decide 13 = .ok (.ishr, 1) := by decide +kernel
theorem dX12_decide_14 : decode cX12_decide 14 = .ok (.ifCond .ne 18, 3) := by decide +kernel
theorem dX12_decide_17 : decode cX12_decide 17 = .ok (.iload_n 2, 1) := by decide +kernel
theorem dX12_decide_18 : decode cX12_decide 18 = .ok (.aload_n 0, 1) := by decide +kernel
theorem dX12_decide_19 : decode cX12_decide 19 = .ok (.getfield 115, 3) := by decide +kernel
theorem dX12_decide_22 : decode cX12_decide 22 = .ok (.ishr, 1) := by decide +kernel
theorem dX12_decide_23 : decode cX12_decide 23 = .ok (.ifCond .ne 9, 3) := by decide +kernel
theorem dX12_decide_26 : decode cX12_decide 26 = .ok (.iload_n 1, 1) := by decide +kernel
theorem dX12_decide_27 : decode cX12_decide 27 = .ok (.iload_n 2, 1) := by decide +kernel
theorem dX12_decide_28 : decode cX12_decide 28 = .ok (.iand, 1) := by decide +kernel
theorem dX12_decide_29 : decode cX12_decide 29 = .ok (.ifCond .eq 6, 3) := by decide +kernel
theorem dX12_decide_32 : decode cX12_decide 32 = .ok (.bipush (-2), 2) := by decide +kernel
theorem dX12_decide_34 : decode cX12_decide 34 = .ok (.ireturn, 1) := by decide +kernel
theorem dX12_decide_35 : decode cX12_decide 35 = .ok (.aload_n 0, 1) := by decide +kernel
theorem dX12_decide_36 : decode cX12_decide 36 = .ok (.invokevirtual 180, 3) := by decide +kernel
theorem dX12_decide_39 : decode cX12_decide 39 = .ok (.istore_n 3, 1) := by decide +kernel
theorem dX12_decide_40 : decode cX12_decide 40 = .ok (.iload_n 3, 1) := by decide +kernel
theorem dX12_decide_41 : decode cX12_decide 41 = .ok (.ifCond .lt 22, 3) := by decide +kernel
theorem dX12_decide_63 : decode cX12_decide 63 = .ok (.bipush (-3), 2) := by decide +kernel
theorem dX12_decide_65 : decode cX12_decide 65 = .ok (.ireturn, 1) := by decide +kernel
set_option maxRecDepth 100000 in
theorem q_1274 : (.code yX12_top cX12_top 1 (some .int)) ∈ lw_all := List.mem_filter.mpr ⟨List.mem_of_getElem? (i := 1274) (rfl), by decide +kernel⟩
set_option maxRecDepth 100000 in
theorem q_1273 : (.instanceMethod yX12_top) ∈ lw_all := List.mem_filter.mpr ⟨List.mem_of_getElem? (i := 1273) (by decide +kernel), by decide +kernel⟩
set_option maxRecDepth 100000 in
theorem q_1271 : (.methodLink RX12 180 yX12_top) ∈ lw_all := List.mem_filter.mpr ⟨List.mem_of_getElem? (i := 1271) (by decide +kernel), by decide +kernel⟩
set_option maxRecDepth 100000 in
theorem q_29 : (.selects RX12 yX12_top yX12_top) ∈ lw_all := List.mem_filter.mpr ⟨List.mem_of_getElem? (i := 29) (by decide +kernel), by decide +kernel⟩
set_option maxHeartbeats 4000000 in
set_option maxRecDepth 100000 in
theorem c_X12_decide (l : Launch) (D : va_G) (cI cQ cM cR : ClassId) (m0 : Nat) (gweight : Nat) (gpresent : Nat) (gspeeches : Nat) (gbuffer : Nat) (gstate : Nat) (gplace : Nat) (gmover : Nat) (gpart : Nat) (gamended : Nat) (gmany : Nat) (gclause : Nat) (gfirstMany : Nat) (gfirstClause : Nat) (gresolution : Nat) (gmotion : Nat) (gaway : Nat) (gawayMany : Nat) (gawayOrder : Nat) (gtable : Nat) (gcommittee : Nat) (glone : Nat) (gentry : Nat) (gchange : Nat) (gyesBy : Nat) (gnoBy : Nat) (gdraft : Nat) (grow : Nat) (growMany : Nat) (growFloats : Nat) (gsaved : Nat) (p0 : Int32) (p1 : Int32) : Met l yX12_decide (ws_ yX12_decide cX12_decide 12 (some .int)) ({ frames := 1, cells := 0, slots := 0, locals := 20 }) (PP D cI cQ cM cR [.ref m0, .int p0, .int p1] [(m0, .inr (12, [.ref gweight, .ref gpresent, .ref gspeeches, .int 0, .int 50, .int 0, .int 0, .ref gbuffer, .ref gstate, .ref gplace, .ref gmover, .ref gpart, .ref gamended, .ref gmany, .ref gclause, .ref gfirstMany, .ref gfirstClause, .int 0, .int 0, .int 0, .int (-1), .ref gresolution, .ref gmotion, .ref gaway, .ref gawayMany, .ref gawayOrder, .ref gtable, .ref gcommittee, .int 0, .int 0, .int 0, .int 0, .int 0, .int 0, .int 0, .int 0, .int (-5), .int 0, .int 0, .ref glone, .int 0, .ref gentry, .ref gchange, .int 0, .int (-1), .int 0, .int 0, .ref gyesBy, .ref gnoBy, .int 0, .int 0, .int 0, .int 0, .int 0, .int 0, .ref gdraft, .ref grow, .ref growMany, .ref growFloats, .ref gsaved, .int 0, .int 0, .int 0]))]) (QP (some (.int (sp_decide p0 p1)))) 0 0 (fun _ => False) := by
  refine Met.ofW (cc := cX12_decide) (maxL := 12) (ret := (some .int)) (by decide) rfl ?_
  intro p e s m args below meth c s₁ B hml hv
  obtain ⟨rfl, hP, hK⟩ := hv
  have hx := B.exec
  have hb := B.bytes
  have hr := B.returns
  have hts : ∀ w ∈ lw_all, w.before _ s = true := fun w h => atoms_spec (ws := (ws_ yX12_decide cX12_decide 12 (some .int))) B.pre w (List.mem_cons_of_mem _ h)
  have hown : s.vm.findClass RX12 = some m.cls := findClass_of_methodNamed B.named
  have hlocks := B.notSynchronized
  have hP : va_P D vwCl [(m0, .inr (12, [.ref gweight, .ref gpresent, .ref gspeeches, .int 0, .int 50, .int 0, .int 0, .ref gbuffer, .ref gstate, .ref gplace, .ref gmover, .ref gpart, .ref gamended, .ref gmany, .ref gclause, .ref gfirstMany, .ref gfirstClause, .int 0, .int 0, .int 0, .int (-1), .ref gresolution, .ref gmotion, .ref gaway, .ref gawayMany, .ref gawayOrder, .ref gtable, .ref gcommittee, .int 0, .int 0, .int 0, .int 0, .int 0, .int 0, .int 0, .int 0, .int (-5), .int 0, .int 0, .ref glone, .int 0, .ref gentry, .ref gchange, .int 0, .int (-1), .int 0, .int 0, .ref gyesBy, .ref gnoBy, .int 0, .int 0, .int 0, .int 0, .int 0, .int 0, .ref gdraft, .ref grow, .ref growMany, .ref growFloats, .ref gsaved, .int 0, .int 0, .int 0]))] s.heap := hP
  have hl := lv_entry ([.ref m0, .int p0, .int p1]) (n := 12) (Nat.le_of_ble_eq_true rfl)
  rw [lg_entry_eq]
  generalize (lg_sl ([.ref m0, .int p0, .int p1]) ++ List.replicate (12 - (lg_sl ([.ref m0, .int p0, .int p1])).length) Slot.unset).toArray = ls at hl ⊢
  have hl : lv_has ls 12 [(0, .ref m0), (1, .int p0), (2, .int p1)] := hl
  refine lv_iload_n hx hb dX12_decide_0 rfl (lv_at hl 1 rfl) ?_
  refine lv_if_lt (tgt := 32) hx hb dX12_decide_1 (by decide) (fun c_1 => ?_) (fun c_1 => ?_)
  · refine lv_bipush (v := (-2)) hx hb dX12_decide_32 (by decide) ?_
    exact W.iret hx hb hr (fun t ht hW => ⟨by unfold sp_decide; rw [if_neg]; intro h; obtain ⟨h8, h9⟩ := h; subst h8 h9; first | exact absurd c_1 (by decide), ht⟩) (fun q hq => absurd hq List.not_mem_nil) dX12_decide_34
  · refine lv_iload_n hx hb dX12_decide_4 rfl (lv_at hl 2 rfl) ?_
    refine lv_if_lt (tgt := 32) hx hb dX12_decide_5 (by decide) (fun c_2 => ?_) (fun c_2 => ?_)
    · refine lv_bipush (v := (-2)) hx hb dX12_decide_32 (by decide) ?_
      exact W.iret hx hb hr (fun t ht hW => ⟨by unfold sp_decide; rw [if_neg]; intro h; obtain ⟨h8, h9⟩ := h; subst h8 h9; first | exact c_1 (by decide) | exact absurd c_2 (by decide), ht⟩) (fun q hq => absurd hq List.not_mem_nil) dX12_decide_34
    · refine lv_iload_n hx hb dX12_decide_8 rfl (lv_at hl 1 rfl) ?_
      refine lv_aload_n hx hb dX12_decide_9 rfl (lv_at hl 0 rfl) ?_
      refine va_get (D := D) (ci := 12) (v := .int 0) (C := RX12) (T := TX12) (N := 63) hx hb hts in_X12 hown hK hP 0 rfl rfl 3 (by decide) (hts _ q_1023) (fun _ h9 => h9) rfl dX12_decide_10 ?_
      refine lv_ishr hx hb dX12_decide_13 ?_
      refine lv_if_ne (tgt := 32) hx hb dX12_decide_14 (by decide) (fun c_3 => ?_) (fun c_3 => ?_)
      · refine lv_bipush (v := (-2)) hx hb dX12_decide_32 (by decide) ?_
        exact W.iret hx hb hr (fun t ht hW => ⟨by unfold sp_decide; rw [if_neg]; intro h; obtain ⟨h8, h9⟩ := h; subst h8 h9; first | exact c_1 (by decide) | exact c_2 (by decide) | exact c_3 (by decide), ht⟩) (fun q hq => absurd hq List.not_mem_nil) dX12_decide_34
      · refine lv_iload_n hx hb dX12_decide_17 rfl (lv_at hl 2 rfl) ?_
        refine lv_aload_n hx hb dX12_decide_18 rfl (lv_at hl 0 rfl) ?_
        refine va_get (D := D) (ci := 12) (v := .int 0) (C := RX12) (T := TX12) (N := 63) hx hb hts in_X12 hown hK hP 0 rfl rfl 3 (by decide) (hts _ q_1023) (fun _ h9 => h9) rfl dX12_decide_19 ?_
        refine lv_ishr hx hb dX12_decide_22 ?_
        refine lv_if_ne (tgt := 32) hx hb dX12_decide_23 (by decide) (fun c_4 => ?_) (fun c_4 => ?_)
        · refine lv_bipush (v := (-2)) hx hb dX12_decide_32 (by decide) ?_
          exact W.iret hx hb hr (fun t ht hW => ⟨by unfold sp_decide; rw [if_neg]; intro h; obtain ⟨h8, h9⟩ := h; subst h8 h9; first | exact c_1 (by decide) | exact c_2 (by decide) | exact absurd c_3 (by decide) | exact c_4 (by decide), ht⟩) (fun q hq => absurd hq List.not_mem_nil) dX12_decide_34
        · refine lv_iload_n hx hb dX12_decide_26 rfl (lv_at hl 1 rfl) ?_
          refine lv_iload_n hx hb dX12_decide_27 rfl (lv_at hl 2 rfl) ?_
          refine lv_iand hx hb dX12_decide_28 ?_
          refine lv_if_eq (tgt := 35) hx hb dX12_decide_29 (by decide) (fun c_5 => ?_) (fun c_5 => ?_)
          · refine lv_aload_n hx hb dX12_decide_35 rfl (lv_at hl 0 rfl) ?_
            refine p_call (va_runV (As := []) (rest := []) ⟨hx, hb, hml, hown, hts⟩ (c_X12_top l D cI cQ cM cR m0 gweight gpresent gspeeches gbuffer gstate gplace gmover gpart gamended gmany gclause gfirstMany gfirstClause gresolution gmotion gaway gawayMany gawayOrder gtable gcommittee glone gentry gchange gyesBy gnoBy gdraft grow growMany growFloats gsaved) (cwV 0 hts (gV q_1271 q_1273 q_29 q_76 q_1274) rfl rfl rfl (by decide +kernel) ⟨Nat.le_of_ble_eq_true rfl, Nat.le_of_ble_eq_true rfl⟩) ⟨PP_blind, va_recv hK hP (ci := 12) (q0 := 0) rfl rfl, PP_of hK (hP.sub [0] rfl)⟩ rfl rfl hl.1 rfl (lv_room (Nat.le_of_ble_eq_true rfl)) dX12_decide_36 ⟨Nat.le_of_ble_eq_true rfl, Nat.le_of_ble_eq_true rfl⟩) ?_
            refine lv_istore_n (lv' := [(3, .int (-1)), (0, .ref m0), (1, .int p0), (2, .int p1)]) hx hb dX12_decide_39 rfl hl (by decide) rfl (fun ls hl => ?_)
            refine lv_iload_n hx hb dX12_decide_40 rfl (lv_at hl 0 rfl) ?_
            refine lv_if_lt (tgt := 63) hx hb dX12_decide_41 (by decide) (fun _ => ?_) (fun c9 => absurd (by decide) c9)
            refine lv_bipush (v := (-3)) hx hb dX12_decide_63 (by decide) ?_
            exact W.iret hx hb hr (fun t ht hW => ⟨by simp_all [sp_decide, shr_0], ht⟩) (fun q hq => absurd hq List.not_mem_nil) dX12_decide_65
          · refine lv_bipush (v := (-2)) hx hb dX12_decide_32 (by decide) ?_
            exact W.iret hx hb hr (fun t ht hW => ⟨by unfold sp_decide; rw [if_neg]; intro h; obtain ⟨h8, h9⟩ := h; subst h8 h9; first | exact c_1 (by decide) | exact c_2 (by decide) | exact absurd c_3 (by decide) | exact absurd c_4 (by decide) | exact c_5 (by decide), ht⟩) (fun q hq => absurd hq List.not_mem_nil) dX12_decide_34
theorem dX12_speak_0 : decode cX12_speak 0 = .ok (.aload_n 0, 1) := by decide +kernel
theorem dX12_speak_1 : decode cX12_speak 1 = .ok (.iload_n 1, 1) := by decide +kernel
theorem dX12_speak_2 : decode cX12_speak 2 = .ok (.invokevirtual 134, 3) := by decide +kernel
theorem dX12_speak_5 : decode cX12_speak 5 = .ok (.ifCond .ne 5, 3) := by decide +kernel
theorem dX12_speak_8 : decode cX12_speak 8 = .ok (.iconst (-1), 1) := by decide +kernel
theorem dX12_speak_9 : decode cX12_speak 9 = .ok (.ireturn, 1) := by decide +kernel
set_option maxHeartbeats 4000000 in
set_option maxRecDepth 100000 in
theorem c_X12_speak (l : Launch) (D : va_G) (cI cQ cM cR : ClassId) (m0 : Nat) (gweight : Nat) (gpresent : Nat) (gspeeches : Nat) (gbuffer : Nat) (gstate : Nat) (gplace : Nat) (gmover : Nat) (gpart : Nat) (gamended : Nat) (gmany : Nat) (gclause : Nat) (gfirstMany : Nat) (gfirstClause : Nat) (gresolution : Nat) (gmotion : Nat) (gaway : Nat) (gawayMany : Nat) (gawayOrder : Nat) (gtable : Nat) (gcommittee : Nat) (glone : Nat) (gentry : Nat) (gchange : Nat) (gyesBy : Nat) (gnoBy : Nat) (gdraft : Nat) (grow : Nat) (growMany : Nat) (growFloats : Nat) (gsaved : Nat) (p0 : Int32) : Met l yX12_speak (ws_ yX12_speak cX12_speak 2 (some .int)) ({ frames := 1, cells := 0, slots := 0, locals := 21 }) (PP D cI cQ cM cR [.ref m0, .int p0] [(m0, .inr (12, [.ref gweight, .ref gpresent, .ref gspeeches, .int 0, .int 50, .int 0, .int 0, .ref gbuffer, .ref gstate, .ref gplace, .ref gmover, .ref gpart, .ref gamended, .ref gmany, .ref gclause, .ref gfirstMany, .ref gfirstClause, .int 0, .int 0, .int 0, .int (-1), .ref gresolution, .ref gmotion, .ref gaway, .ref gawayMany, .ref gawayOrder, .ref gtable, .ref gcommittee, .int 0, .int 0, .int 0, .int 0, .int 0, .int 0, .int 0, .int 0, .int (-5), .int 0, .int 0, .ref glone, .int 0, .ref gentry, .ref gchange, .int 0, .int (-1), .int 0, .int 0, .ref gyesBy, .ref gnoBy, .int 0, .int 0, .int 0, .int 0, .int 0, .int 0, .ref gdraft, .ref grow, .ref growMany, .ref growFloats, .ref gsaved, .int 0, .int 0, .int 0]))]) (QP (some (.int (-1)))) 0 0 (fun _ => False) := by
  refine Met.ofW (cc := cX12_speak) (maxL := 2) (ret := (some .int)) (by decide) rfl ?_
  intro p e s m args below meth c s₁ B hml hv
  obtain ⟨rfl, hP, hK⟩ := hv
  have hx := B.exec
  have hb := B.bytes
  have hr := B.returns
  have hts : ∀ w ∈ lw_all, w.before _ s = true := fun w h => atoms_spec (ws := (ws_ yX12_speak cX12_speak 2 (some .int))) B.pre w (List.mem_cons_of_mem _ h)
  have hown : s.vm.findClass RX12 = some m.cls := findClass_of_methodNamed B.named
  have hlocks := B.notSynchronized
  have hP : va_P D vwCl [(m0, .inr (12, [.ref gweight, .ref gpresent, .ref gspeeches, .int 0, .int 50, .int 0, .int 0, .ref gbuffer, .ref gstate, .ref gplace, .ref gmover, .ref gpart, .ref gamended, .ref gmany, .ref gclause, .ref gfirstMany, .ref gfirstClause, .int 0, .int 0, .int 0, .int (-1), .ref gresolution, .ref gmotion, .ref gaway, .ref gawayMany, .ref gawayOrder, .ref gtable, .ref gcommittee, .int 0, .int 0, .int 0, .int 0, .int 0, .int 0, .int 0, .int 0, .int (-5), .int 0, .int 0, .ref glone, .int 0, .ref gentry, .ref gchange, .int 0, .int (-1), .int 0, .int 0, .ref gyesBy, .ref gnoBy, .int 0, .int 0, .int 0, .int 0, .int 0, .int 0, .ref gdraft, .ref grow, .ref growMany, .ref growFloats, .ref gsaved, .int 0, .int 0, .int 0]))] s.heap := hP
  have hl := lv_entry ([.ref m0, .int p0]) (n := 2) (Nat.le_of_ble_eq_true rfl)
  rw [lg_entry_eq]
  generalize (lg_sl ([.ref m0, .int p0]) ++ List.replicate (2 - (lg_sl ([.ref m0, .int p0])).length) Slot.unset).toArray = ls at hl ⊢
  have hl : lv_has ls 2 [(0, .ref m0), (1, .int p0)] := hl
  refine lv_aload_n hx hb dX12_speak_0 rfl (lv_at hl 0 rfl) ?_
  refine lv_iload_n hx hb dX12_speak_1 rfl (lv_at hl 1 rfl) ?_
  refine p_call (va_runV (As := [.int p0]) (rest := []) ⟨hx, hb, hml, hown, hts⟩ (c_X12_isDelegate l D cI cQ cM cR m0 gweight gpresent gspeeches gbuffer gstate gplace gmover gpart gamended gmany gclause gfirstMany gfirstClause gresolution gmotion gaway gawayMany gawayOrder gtable gcommittee glone gentry gchange gyesBy gnoBy gdraft grow growMany growFloats gsaved p0) (cwV 1 hts (gV q_1221 q_1223 q_21 q_76 q_1224) rfl rfl rfl (by decide +kernel) ⟨Nat.le_of_ble_eq_true rfl, Nat.le_of_ble_eq_true rfl⟩) ⟨PP_blind, va_recv hK hP (ci := 12) (q0 := 0) rfl rfl, PP_of hK (hP.sub [0] rfl)⟩ rfl rfl hl.1 rfl (lv_room (Nat.le_of_ble_eq_true rfl)) dX12_speak_2 ⟨Nat.le_of_ble_eq_true rfl, Nat.le_of_ble_eq_true rfl⟩) ?_
  refine lv_if_ne (tgt := 10) hx hb dX12_speak_5 (by decide) (fun c9 => absurd (by decide) c9) (fun _ => ?_)
  refine lv_iconst (v := (-1)) hx hb dX12_speak_8 (by decide) ?_
  exact W.iret hx hb hr (fun t ht hW => ⟨rfl, ht⟩) (fun q hq => absurd hq List.not_mem_nil) dX12_speak_9
theorem dX12_divide_0 : decode cX12_divide 0 = .ok (.aload_n 0, 1) := by decide +kernel
theorem dX12_divide_1 : decode cX12_divide 1 = .ok (.invokevirtual 180, 3) := by decide +kernel
theorem dX12_divide_4 : decode cX12_divide 4 = .ok (.ifCond .eq 6, 3) := by decide +kernel
theorem dX12_divide_7 : decode cX12_divide 7 = .ok (.bipush (-3), 2) := by decide +kernel
theorem dX12_divide_9 : decode cX12_divide 9 = .ok (.ireturn, 1) := by decide +kernel
set_option maxHeartbeats 4000000 in
set_option maxRecDepth 100000 in
theorem c_X12_divide (l : Launch) (D : va_G) (cI cQ cM cR : ClassId) (m0 : Nat) (gweight : Nat) (gpresent : Nat) (gspeeches : Nat) (gbuffer : Nat) (gstate : Nat) (gplace : Nat) (gmover : Nat) (gpart : Nat) (gamended : Nat) (gmany : Nat) (gclause : Nat) (gfirstMany : Nat) (gfirstClause : Nat) (gresolution : Nat) (gmotion : Nat) (gaway : Nat) (gawayMany : Nat) (gawayOrder : Nat) (gtable : Nat) (gcommittee : Nat) (glone : Nat) (gentry : Nat) (gchange : Nat) (gyesBy : Nat) (gnoBy : Nat) (gdraft : Nat) (grow : Nat) (growMany : Nat) (growFloats : Nat) (gsaved : Nat) (p0 : Int32) : Met l yX12_divide (ws_ yX12_divide cX12_divide 4 (some .int)) ({ frames := 1, cells := 0, slots := 0, locals := 20 }) (PP D cI cQ cM cR [.ref m0, .int p0] [(m0, .inr (12, [.ref gweight, .ref gpresent, .ref gspeeches, .int 0, .int 50, .int 0, .int 0, .ref gbuffer, .ref gstate, .ref gplace, .ref gmover, .ref gpart, .ref gamended, .ref gmany, .ref gclause, .ref gfirstMany, .ref gfirstClause, .int 0, .int 0, .int 0, .int (-1), .ref gresolution, .ref gmotion, .ref gaway, .ref gawayMany, .ref gawayOrder, .ref gtable, .ref gcommittee, .int 0, .int 0, .int 0, .int 0, .int 0, .int 0, .int 0, .int 0, .int (-5), .int 0, .int 0, .ref glone, .int 0, .ref gentry, .ref gchange, .int 0, .int (-1), .int 0, .int 0, .ref gyesBy, .ref gnoBy, .int 0, .int 0, .int 0, .int 0, .int 0, .int 0, .ref gdraft, .ref grow, .ref growMany, .ref growFloats, .ref gsaved, .int 0, .int 0, .int 0]))]) (QP (some (.int (-3)))) 0 0 (fun _ => False) := by
  refine Met.ofW (cc := cX12_divide) (maxL := 4) (ret := (some .int)) (by decide) rfl ?_
  intro p e s m args below meth c s₁ B hml hv
  obtain ⟨rfl, hP, hK⟩ := hv
  have hx := B.exec
  have hb := B.bytes
  have hr := B.returns
  have hts : ∀ w ∈ lw_all, w.before _ s = true := fun w h => atoms_spec (ws := (ws_ yX12_divide cX12_divide 4 (some .int))) B.pre w (List.mem_cons_of_mem _ h)
  have hown : s.vm.findClass RX12 = some m.cls := findClass_of_methodNamed B.named
  have hlocks := B.notSynchronized
  have hP : va_P D vwCl [(m0, .inr (12, [.ref gweight, .ref gpresent, .ref gspeeches, .int 0, .int 50, .int 0, .int 0, .ref gbuffer, .ref gstate, .ref gplace, .ref gmover, .ref gpart, .ref gamended, .ref gmany, .ref gclause, .ref gfirstMany, .ref gfirstClause, .int 0, .int 0, .int 0, .int (-1), .ref gresolution, .ref gmotion, .ref gaway, .ref gawayMany, .ref gawayOrder, .ref gtable, .ref gcommittee, .int 0, .int 0, .int 0, .int 0, .int 0, .int 0, .int 0, .int 0, .int (-5), .int 0, .int 0, .ref glone, .int 0, .ref gentry, .ref gchange, .int 0, .int (-1), .int 0, .int 0, .ref gyesBy, .ref gnoBy, .int 0, .int 0, .int 0, .int 0, .int 0, .int 0, .ref gdraft, .ref grow, .ref growMany, .ref growFloats, .ref gsaved, .int 0, .int 0, .int 0]))] s.heap := hP
  have hl := lv_entry ([.ref m0, .int p0]) (n := 4) (Nat.le_of_ble_eq_true rfl)
  rw [lg_entry_eq]
  generalize (lg_sl ([.ref m0, .int p0]) ++ List.replicate (4 - (lg_sl ([.ref m0, .int p0])).length) Slot.unset).toArray = ls at hl ⊢
  have hl : lv_has ls 4 [(0, .ref m0), (1, .int p0)] := hl
  refine lv_aload_n hx hb dX12_divide_0 rfl (lv_at hl 0 rfl) ?_
  refine p_call (va_runV (As := []) (rest := []) ⟨hx, hb, hml, hown, hts⟩ (c_X12_top l D cI cQ cM cR m0 gweight gpresent gspeeches gbuffer gstate gplace gmover gpart gamended gmany gclause gfirstMany gfirstClause gresolution gmotion gaway gawayMany gawayOrder gtable gcommittee glone gentry gchange gyesBy gnoBy gdraft grow growMany growFloats gsaved) (cwV 0 hts (gV q_1271 q_1273 q_29 q_76 q_1274) rfl rfl rfl (by decide +kernel) ⟨Nat.le_of_ble_eq_true rfl, Nat.le_of_ble_eq_true rfl⟩) ⟨PP_blind, va_recv hK hP (ci := 12) (q0 := 0) rfl rfl, PP_of hK (hP.sub [0] rfl)⟩ rfl rfl hl.1 rfl (lv_room (Nat.le_of_ble_eq_true rfl)) dX12_divide_1 ⟨Nat.le_of_ble_eq_true rfl, Nat.le_of_ble_eq_true rfl⟩) ?_
  refine lv_if_eq (tgt := 10) hx hb dX12_divide_4 (by decide) (fun c9 => absurd c9 (by decide)) (fun _ => ?_)
  refine lv_bipush (v := (-3)) hx hb dX12_divide_7 (by decide) ?_
  exact W.iret hx hb hr (fun t ht hW => ⟨rfl, ht⟩) (fun q hq => absurd hq List.not_mem_nil) dX12_divide_9
theorem dX12_next_0 : decode cX12_next 0 = .ok (.aload_n 0, 1) := by decide +kernel
theorem dX12_next_1 : decode cX12_next 1 = .ok (.getfield 144, 3) := by decide +kernel
theorem dX12_next_4 : decode cX12_next 4 = .ok (.ifCond .gt 11, 3) := by decide +kernel
theorem dX12_next_7 : decode cX12_next 7 = .ok (.aload_n 0, 1) := by decide +kernel
theorem dX12_next_8 : decode cX12_next 8 = .ok (.getfield 198, 3) := by decide +kernel
theorem dX12_next_11 : decode cX12_next 11 = .ok (.iconst 1, 1) := by decide +kernel
theorem dX12_next_12 : decode cX12_next 12 = .ok (.if_icmp .ne 6, 3) := by decide +kernel
theorem dX12_next_18 : decode cX12_next 18 = .ok (.aload_n 0, 1) := by decide +kernel
theorem dX12_next_19 : decode cX12_next 19 = .ok (.invokevirtual 316, 3) := by decide +kernel
theorem dX12_next_22 : decode cX12_next 22 = .ok (.istore_n 1, 1) := by decide +kernel
theorem dX12_next_23 : decode cX12_next 23 = .ok (.aload_n 0, 1) := by decide +kernel
theorem dX12_next_24 : decode cX12_next 24 = .ok (.invokevirtual 319, 3) := by decide +kernel
theorem dX12_next_27 : decode cX12_next 27 = .ok (.istore_n 2, 1) := by decide +kernel
theorem dX12_next_28 : decode cX12_next 28 = .ok (.iload_n 2, 1) := by decide +kernel
theorem dX12_next_29 : decode cX12_next 29 = .ok (.ifCond .lt 33, 3) := by decide +kernel
theorem dX12_next_62 : decode cX12_next 62 = .ok (.iload_n 1, 1) := by decide +kernel
theorem dX12_next_63 : decode cX12_next 63 = .ok (.ifCond .ge 6, 3) := by decide +kernel
theorem dX12_next_66 : decode cX12_next 66 = .ok (.bipush (-5), 2) := by decide +kernel
theorem dX12_next_68 : decode cX12_next 68 = .ok (.ireturn, 1) := by decide +kernel
set_option maxRecDepth 100000 in
theorem q_1392 : (.code yX12_nextLone cX12_nextLone 3 (some .int)) ∈ lw_all := List.mem_filter.mpr ⟨List.mem_of_getElem? (i := 1392) (rfl), by decide +kernel⟩
set_option maxRecDepth 100000 in
theorem q_1388 : (.code yX12_nextWaiting cX12_nextWaiting 3 (some .int)) ∈ lw_all := List.mem_filter.mpr ⟨List.mem_of_getElem? (i := 1388) (rfl), by decide +kernel⟩
set_option maxRecDepth 100000 in
theorem q_1026 : (.fieldLink RX12 198 "AssemblyChairModel" "closed" "I") ∈ lw_all := List.mem_filter.mpr ⟨List.mem_of_getElem? (i := 1026) (by decide +kernel), by decide +kernel⟩
set_option maxRecDepth 100000 in
theorem q_1391 : (.instanceMethod yX12_nextLone) ∈ lw_all := List.mem_filter.mpr ⟨List.mem_of_getElem? (i := 1391) (by decide +kernel), by decide +kernel⟩
set_option maxRecDepth 100000 in
theorem q_1387 : (.instanceMethod yX12_nextWaiting) ∈ lw_all := List.mem_filter.mpr ⟨List.mem_of_getElem? (i := 1387) (by decide +kernel), by decide +kernel⟩
set_option maxRecDepth 100000 in
theorem q_1385 : (.methodLink RX12 316 yX12_nextWaiting) ∈ lw_all := List.mem_filter.mpr ⟨List.mem_of_getElem? (i := 1385) (by decide +kernel), by decide +kernel⟩
set_option maxRecDepth 100000 in
theorem q_1389 : (.methodLink RX12 319 yX12_nextLone) ∈ lw_all := List.mem_filter.mpr ⟨List.mem_of_getElem? (i := 1389) (by decide +kernel), by decide +kernel⟩
set_option maxRecDepth 100000 in
theorem q_51 : (.selects RX12 yX12_nextLone yX12_nextLone) ∈ lw_all := List.mem_filter.mpr ⟨List.mem_of_getElem? (i := 51) (by decide +kernel), by decide +kernel⟩
set_option maxRecDepth 100000 in
theorem q_50 : (.selects RX12 yX12_nextWaiting yX12_nextWaiting) ∈ lw_all := List.mem_filter.mpr ⟨List.mem_of_getElem? (i := 50) (by decide +kernel), by decide +kernel⟩
set_option maxHeartbeats 4000000 in
set_option maxRecDepth 100000 in
theorem c_X12_next (l : Launch) (D : va_G) (cI cQ cM cR : ClassId) (m0 : Nat) (gweight : Nat) (gpresent : Nat) (gspeeches : Nat) (gbuffer : Nat) (gstate : Nat) (gplace : Nat) (gmover : Nat) (gpart : Nat) (gamended : Nat) (gmany : Nat) (gclause : Nat) (gfirstMany : Nat) (gfirstClause : Nat) (gresolution : Nat) (gmotion : Nat) (gaway : Nat) (gawayMany : Nat) (gawayOrder : Nat) (gtable : Nat) (gcommittee : Nat) (glone : Nat) (gentry : Nat) (gchange : Nat) (gyesBy : Nat) (gnoBy : Nat) (gdraft : Nat) (grow : Nat) (growMany : Nat) (growFloats : Nat) (gsaved : Nat) : Met l yX12_next (ws_ yX12_next cX12_next 3 (some .int)) ({ frames := 1, cells := 0, slots := 0, locals := 22 }) (PP D cI cQ cM cR [.ref m0] [(m0, .inr (12, [.ref gweight, .ref gpresent, .ref gspeeches, .int 0, .int 50, .int 0, .int 0, .ref gbuffer, .ref gstate, .ref gplace, .ref gmover, .ref gpart, .ref gamended, .ref gmany, .ref gclause, .ref gfirstMany, .ref gfirstClause, .int 0, .int 0, .int 0, .int (-1), .ref gresolution, .ref gmotion, .ref gaway, .ref gawayMany, .ref gawayOrder, .ref gtable, .ref gcommittee, .int 0, .int 0, .int 0, .int 0, .int 0, .int 0, .int 0, .int 0, .int (-5), .int 0, .int 0, .ref glone, .int 0, .ref gentry, .ref gchange, .int 0, .int (-1), .int 0, .int 0, .ref gyesBy, .ref gnoBy, .int 0, .int 0, .int 0, .int 0, .int 0, .int 0, .ref gdraft, .ref grow, .ref growMany, .ref growFloats, .ref gsaved, .int 0, .int 0, .int 0]))]) (QP (some (.int (-5)))) 0 0 (fun _ => False) := by
  refine Met.ofW (cc := cX12_next) (maxL := 3) (ret := (some .int)) (by decide) rfl ?_
  intro p e s m args below meth c s₁ B hml hv
  obtain ⟨rfl, hP, hK⟩ := hv
  have hx := B.exec
  have hb := B.bytes
  have hr := B.returns
  have hts : ∀ w ∈ lw_all, w.before _ s = true := fun w h => atoms_spec (ws := (ws_ yX12_next cX12_next 3 (some .int))) B.pre w (List.mem_cons_of_mem _ h)
  have hown : s.vm.findClass RX12 = some m.cls := findClass_of_methodNamed B.named
  have hlocks := B.notSynchronized
  have hP : va_P D vwCl [(m0, .inr (12, [.ref gweight, .ref gpresent, .ref gspeeches, .int 0, .int 50, .int 0, .int 0, .ref gbuffer, .ref gstate, .ref gplace, .ref gmover, .ref gpart, .ref gamended, .ref gmany, .ref gclause, .ref gfirstMany, .ref gfirstClause, .int 0, .int 0, .int 0, .int (-1), .ref gresolution, .ref gmotion, .ref gaway, .ref gawayMany, .ref gawayOrder, .ref gtable, .ref gcommittee, .int 0, .int 0, .int 0, .int 0, .int 0, .int 0, .int 0, .int 0, .int (-5), .int 0, .int 0, .ref glone, .int 0, .ref gentry, .ref gchange, .int 0, .int (-1), .int 0, .int 0, .ref gyesBy, .ref gnoBy, .int 0, .int 0, .int 0, .int 0, .int 0, .int 0, .ref gdraft, .ref grow, .ref growMany, .ref growFloats, .ref gsaved, .int 0, .int 0, .int 0]))] s.heap := hP
  have hl := lv_entry ([.ref m0]) (n := 3) (Nat.le_of_ble_eq_true rfl)
  rw [lg_entry_eq]
  generalize (lg_sl ([.ref m0]) ++ List.replicate (3 - (lg_sl ([.ref m0])).length) Slot.unset).toArray = ls at hl ⊢
  have hl : lv_has ls 3 [(0, .ref m0)] := hl
  refine lv_aload_n hx hb dX12_next_0 rfl (lv_at hl 0 rfl) ?_
  refine va_get (D := D) (ci := 12) (v := .int 0) (C := RX12) (T := TX12) (N := 63) hx hb hts in_X12 hown hK hP 0 rfl rfl 28 (by decide) (hts _ q_1048) (fun _ h9 => h9) rfl dX12_next_1 ?_
  refine lv_if_gt (tgt := 15) hx hb dX12_next_4 (by decide) (fun c9 => absurd c9 (by decide)) (fun _ => ?_)
  refine lv_aload_n hx hb dX12_next_7 rfl (lv_at hl 0 rfl) ?_
  refine va_get (D := D) (ci := 12) (v := .int 0) (C := RX12) (T := TX12) (N := 63) hx hb hts in_X12 hown hK hP 0 rfl rfl 6 (by decide) (hts _ q_1026) (fun _ h9 => h9) rfl dX12_next_8 ?_
  refine lv_iconst (v := 1) hx hb dX12_next_11 (by decide) ?_
  refine lv_icmp_ne (tgt := 18) hx hb dX12_next_12 (by decide) (fun _ => ?_) (fun c9 => absurd c9 (by decide))
  refine lv_aload_n hx hb dX12_next_18 rfl (lv_at hl 0 rfl) ?_
  refine p_call (va_runV (As := []) (rest := []) ⟨hx, hb, hml, hown, hts⟩ (c_X12_nextWaiting l D cI cQ cM cR m0 gweight gpresent gspeeches gbuffer gstate gplace gmover gpart gamended gmany gclause gfirstMany gfirstClause gresolution gmotion gaway gawayMany gawayOrder gtable gcommittee glone gentry gchange gyesBy gnoBy gdraft grow growMany growFloats gsaved) (cwV 0 hts (gV q_1385 q_1387 q_50 q_76 q_1388) rfl rfl rfl (by decide +kernel) ⟨Nat.le_of_ble_eq_true rfl, Nat.le_of_ble_eq_true rfl⟩) ⟨PP_blind, va_recv hK hP (ci := 12) (q0 := 0) rfl rfl, PP_of hK (hP.sub [0] rfl)⟩ rfl rfl hl.1 rfl (lv_room (Nat.le_of_ble_eq_true rfl)) dX12_next_19 ⟨Nat.le_of_ble_eq_true rfl, Nat.le_of_ble_eq_true rfl⟩) ?_
  refine lv_istore_n (lv' := [(1, .int (-1)), (0, .ref m0)]) hx hb dX12_next_22 rfl hl (by decide) rfl (fun ls hl => ?_)
  refine lv_aload_n hx hb dX12_next_23 rfl (lv_at hl 1 rfl) ?_
  refine p_call (va_runV (As := []) (rest := []) ⟨hx, hb, hml, hown, hts⟩ (c_X12_nextLone l D cI cQ cM cR m0 gweight gpresent gspeeches gbuffer gstate gplace gmover gpart gamended gmany gclause gfirstMany gfirstClause gresolution gmotion gaway gawayMany gawayOrder gtable gcommittee glone gentry gchange gyesBy gnoBy gdraft grow growMany growFloats gsaved) (cwV 0 hts (gV q_1389 q_1391 q_51 q_76 q_1392) rfl rfl rfl (by decide +kernel) ⟨Nat.le_of_ble_eq_true rfl, Nat.le_of_ble_eq_true rfl⟩) ⟨PP_blind, va_recv hK hP (ci := 12) (q0 := 0) rfl rfl, PP_of hK (hP.sub [0] rfl)⟩ rfl rfl hl.1 rfl (lv_room (Nat.le_of_ble_eq_true rfl)) dX12_next_24 ⟨Nat.le_of_ble_eq_true rfl, Nat.le_of_ble_eq_true rfl⟩) ?_
  refine lv_istore_n (lv' := [(2, .int (-1)), (1, .int (-1)), (0, .ref m0)]) hx hb dX12_next_27 rfl hl (by decide) rfl (fun ls hl => ?_)
  refine lv_iload_n hx hb dX12_next_28 rfl (lv_at hl 0 rfl) ?_
  refine lv_if_lt (tgt := 62) hx hb dX12_next_29 (by decide) (fun _ => ?_) (fun c9 => absurd (by decide) c9)
  refine lv_iload_n hx hb dX12_next_62 rfl (lv_at hl 1 rfl) ?_
  refine lv_if_ge (tgt := 69) hx hb dX12_next_63 (by decide) (fun c9 => absurd c9 (by decide)) (fun _ => ?_)
  refine lv_bipush (v := (-5)) hx hb dX12_next_66 (by decide) ?_
  exact W.iret hx hb hr (fun t ht hW => ⟨rfl, ht⟩) (fun q hq => absurd hq List.not_mem_nil) dX12_next_68
theorem dX12_open_0 : decode cX12_open 0 = .ok (.aload_n 0, 1) := by decide +kernel
theorem dX12_open_1 : decode cX12_open 1 = .ok (.getfield 198, 3) := by decide +kernel
theorem dX12_open_4 : decode cX12_open 4 = .ok (.ifCond .ne 6, 3) := by decide +kernel
theorem dX12_open_7 : decode cX12_open 7 = .ok (.bipush (-3), 2) := by decide +kernel
theorem dX12_open_9 : decode cX12_open 9 = .ok (.ireturn, 1) := by decide +kernel
set_option maxHeartbeats 4000000 in
set_option maxRecDepth 100000 in
theorem c_X12_open (l : Launch) (D : va_G) (cI cQ cM cR : ClassId) (m0 : Nat) (gweight : Nat) (gpresent : Nat) (gspeeches : Nat) (gbuffer : Nat) (gstate : Nat) (gplace : Nat) (gmover : Nat) (gpart : Nat) (gamended : Nat) (gmany : Nat) (gclause : Nat) (gfirstMany : Nat) (gfirstClause : Nat) (gresolution : Nat) (gmotion : Nat) (gaway : Nat) (gawayMany : Nat) (gawayOrder : Nat) (gtable : Nat) (gcommittee : Nat) (glone : Nat) (gentry : Nat) (gchange : Nat) (gyesBy : Nat) (gnoBy : Nat) (gdraft : Nat) (grow : Nat) (growMany : Nat) (growFloats : Nat) (gsaved : Nat) : Met l yX12_open (ws_ yX12_open cX12_open 1 (some .int)) ({ frames := 0, cells := 0, slots := 0, locals := 0 }) (PP D cI cQ cM cR [.ref m0] [(m0, .inr (12, [.ref gweight, .ref gpresent, .ref gspeeches, .int 0, .int 50, .int 0, .int 0, .ref gbuffer, .ref gstate, .ref gplace, .ref gmover, .ref gpart, .ref gamended, .ref gmany, .ref gclause, .ref gfirstMany, .ref gfirstClause, .int 0, .int 0, .int 0, .int (-1), .ref gresolution, .ref gmotion, .ref gaway, .ref gawayMany, .ref gawayOrder, .ref gtable, .ref gcommittee, .int 0, .int 0, .int 0, .int 0, .int 0, .int 0, .int 0, .int 0, .int (-5), .int 0, .int 0, .ref glone, .int 0, .ref gentry, .ref gchange, .int 0, .int (-1), .int 0, .int 0, .ref gyesBy, .ref gnoBy, .int 0, .int 0, .int 0, .int 0, .int 0, .int 0, .ref gdraft, .ref grow, .ref growMany, .ref growFloats, .ref gsaved, .int 0, .int 0, .int 0]))]) (QP (some (.int (-3)))) 0 0 (fun _ => False) := by
  refine Met.ofW (cc := cX12_open) (maxL := 1) (ret := (some .int)) (by decide) rfl ?_
  intro p e s m args below meth c s₁ B hml hv
  obtain ⟨rfl, hP, hK⟩ := hv
  have hx := B.exec
  have hb := B.bytes
  have hr := B.returns
  have hts : ∀ w ∈ lw_all, w.before _ s = true := fun w h => atoms_spec (ws := (ws_ yX12_open cX12_open 1 (some .int))) B.pre w (List.mem_cons_of_mem _ h)
  have hown : s.vm.findClass RX12 = some m.cls := findClass_of_methodNamed B.named
  have hlocks := B.notSynchronized
  have hP : va_P D vwCl [(m0, .inr (12, [.ref gweight, .ref gpresent, .ref gspeeches, .int 0, .int 50, .int 0, .int 0, .ref gbuffer, .ref gstate, .ref gplace, .ref gmover, .ref gpart, .ref gamended, .ref gmany, .ref gclause, .ref gfirstMany, .ref gfirstClause, .int 0, .int 0, .int 0, .int (-1), .ref gresolution, .ref gmotion, .ref gaway, .ref gawayMany, .ref gawayOrder, .ref gtable, .ref gcommittee, .int 0, .int 0, .int 0, .int 0, .int 0, .int 0, .int 0, .int 0, .int (-5), .int 0, .int 0, .ref glone, .int 0, .ref gentry, .ref gchange, .int 0, .int (-1), .int 0, .int 0, .ref gyesBy, .ref gnoBy, .int 0, .int 0, .int 0, .int 0, .int 0, .int 0, .ref gdraft, .ref grow, .ref growMany, .ref growFloats, .ref gsaved, .int 0, .int 0, .int 0]))] s.heap := hP
  have hl := lv_entry ([.ref m0]) (n := 1) (Nat.le_of_ble_eq_true rfl)
  rw [lg_entry_eq]
  generalize (lg_sl ([.ref m0]) ++ List.replicate (1 - (lg_sl ([.ref m0])).length) Slot.unset).toArray = ls at hl ⊢
  have hl : lv_has ls 1 [(0, .ref m0)] := hl
  refine lv_aload_n hx hb dX12_open_0 rfl (lv_at hl 0 rfl) ?_
  refine va_get (D := D) (ci := 12) (v := .int 0) (C := RX12) (T := TX12) (N := 63) hx hb hts in_X12 hown hK hP 0 rfl rfl 6 (by decide) (hts _ q_1026) (fun _ h9 => h9) rfl dX12_open_1 ?_
  refine lv_if_ne (tgt := 10) hx hb dX12_open_4 (by decide) (fun c9 => absurd (by decide) c9) (fun _ => ?_)
  refine lv_bipush (v := (-3)) hx hb dX12_open_7 (by decide) ?_
  exact W.iret hx hb hr (fun t ht hW => ⟨rfl, ht⟩) (fun q hq => absurd hq List.not_mem_nil) dX12_open_9
theorem dX12_pending_0 : decode cX12_pending 0 = .ok (.iload_n 1, 1) := by decide +kernel
theorem dX12_pending_1 : decode cX12_pending 1 = .ok (.iconst (-1), 1) := by decide +kernel
theorem dX12_pending_2 : decode cX12_pending 2 = .ok (.if_icmp .ne 8, 3) := by decide +kernel
theorem dX12_pending_5 : decode cX12_pending 5 = .ok (.aload_n 0, 1) := by decide +kernel
theorem dX12_pending_6 : decode cX12_pending 6 = .ok (.getfield 144, 3) := by decide +kernel
theorem dX12_pending_9 : decode cX12_pending 9 = .ok (.ireturn, 1) := by decide +kernel
theorem dX12_pending_10 : decode cX12_pending 10 = .ok (.iload_n 1, 1) := by decide +kernel
theorem dX12_pending_11 : decode cX12_pending 11 = .ok (.iconst 0, 1) := by decide +kernel
theorem dX12_pending_12 : decode cX12_pending 12 = .ok (.aload_n 0, 1) := by decide +kernel
theorem dX12_pending_13 : decode cX12_pending 13 = .ok (.getfield 144, 3) := by decide +kernel
theorem dX12_pending_16 : decode cX12_pending 16 = .ok (.iconst 1, 1) := by decide +kernel
theorem dX12_pending_17 : decode cX12_pending 17 = .ok (.isub, 1) := by decide +kernel
theorem dX12_pending_18 : decode cX12_pending 18 = .ok (.invokestatic 130, 3) := by decide +kernel
theorem dX12_pending_21 : decode cX12_pending 21 = .ok (.ifCond .eq 12, 3) := by decide +kernel
theorem dX12_pending_33 : decode cX12_pending 33 = .ok (.iconst (-1), 1) := by decide +kernel
theorem dX12_pending_34 : decode cX12_pending 34 = .ok (.ireturn, 1) := by decide +kernel
set_option maxRecDepth 100000 in
theorem q_1216 : (.code yX12_isBetween cX12_isBetween 3 (some .boolean)) ∈ lw_all := List.mem_filter.mpr ⟨List.mem_of_getElem? (i := 1216) (rfl), by decide +kernel⟩
set_option maxRecDepth 100000 in
theorem q_1214 : (.methodLink RX12 130 yX12_isBetween) ∈ lw_all := List.mem_filter.mpr ⟨List.mem_of_getElem? (i := 1214) (by decide +kernel), by decide +kernel⟩
set_option maxRecDepth 100000 in
theorem q_1215 : (.static yX12_isBetween) ∈ lw_all := List.mem_filter.mpr ⟨List.mem_of_getElem? (i := 1215) (by decide +kernel), by decide +kernel⟩
set_option maxHeartbeats 4000000 in
set_option maxRecDepth 100000 in
theorem c_X12_pending (l : Launch) (D : va_G) (cI cQ cM cR : ClassId) (m0 : Nat) (gweight : Nat) (gpresent : Nat) (gspeeches : Nat) (gbuffer : Nat) (gstate : Nat) (gplace : Nat) (gmover : Nat) (gpart : Nat) (gamended : Nat) (gmany : Nat) (gclause : Nat) (gfirstMany : Nat) (gfirstClause : Nat) (gresolution : Nat) (gmotion : Nat) (gaway : Nat) (gawayMany : Nat) (gawayOrder : Nat) (gtable : Nat) (gcommittee : Nat) (glone : Nat) (gentry : Nat) (gchange : Nat) (gyesBy : Nat) (gnoBy : Nat) (gdraft : Nat) (grow : Nat) (growMany : Nat) (growFloats : Nat) (gsaved : Nat) (p0 : Int32) (p1 : Int32) : Met l yX12_pending (ws_ yX12_pending cX12_pending 3 (some .int)) ({ frames := 1, cells := 0, slots := 0, locals := 22 }) (PP D cI cQ cM cR [.ref m0, .int p0, .int p1] [(m0, .inr (12, [.ref gweight, .ref gpresent, .ref gspeeches, .int 0, .int 50, .int 0, .int 0, .ref gbuffer, .ref gstate, .ref gplace, .ref gmover, .ref gpart, .ref gamended, .ref gmany, .ref gclause, .ref gfirstMany, .ref gfirstClause, .int 0, .int 0, .int 0, .int (-1), .ref gresolution, .ref gmotion, .ref gaway, .ref gawayMany, .ref gawayOrder, .ref gtable, .ref gcommittee, .int 0, .int 0, .int 0, .int 0, .int 0, .int 0, .int 0, .int 0, .int (-5), .int 0, .int 0, .ref glone, .int 0, .ref gentry, .ref gchange, .int 0, .int (-1), .int 0, .int 0, .ref gyesBy, .ref gnoBy, .int 0, .int 0, .int 0, .int 0, .int 0, .int 0, .ref gdraft, .ref grow, .ref growMany, .ref growFloats, .ref gsaved, .int 0, .int 0, .int 0]))]) (QP (some (.int (sp_m1 p0)))) 0 0 (fun _ => False) := by
  refine Met.ofW (cc := cX12_pending) (maxL := 3) (ret := (some .int)) (by decide) rfl ?_
  intro p e s m args below meth c s₁ B hml hv
  obtain ⟨rfl, hP, hK⟩ := hv
  have hx := B.exec
  have hb := B.bytes
  have hr := B.returns
  have hts : ∀ w ∈ lw_all, w.before _ s = true := fun w h => atoms_spec (ws := (ws_ yX12_pending cX12_pending 3 (some .int))) B.pre w (List.mem_cons_of_mem _ h)
  have hown : s.vm.findClass RX12 = some m.cls := findClass_of_methodNamed B.named
  have hlocks := B.notSynchronized
  have hP : va_P D vwCl [(m0, .inr (12, [.ref gweight, .ref gpresent, .ref gspeeches, .int 0, .int 50, .int 0, .int 0, .ref gbuffer, .ref gstate, .ref gplace, .ref gmover, .ref gpart, .ref gamended, .ref gmany, .ref gclause, .ref gfirstMany, .ref gfirstClause, .int 0, .int 0, .int 0, .int (-1), .ref gresolution, .ref gmotion, .ref gaway, .ref gawayMany, .ref gawayOrder, .ref gtable, .ref gcommittee, .int 0, .int 0, .int 0, .int 0, .int 0, .int 0, .int 0, .int 0, .int (-5), .int 0, .int 0, .ref glone, .int 0, .ref gentry, .ref gchange, .int 0, .int (-1), .int 0, .int 0, .ref gyesBy, .ref gnoBy, .int 0, .int 0, .int 0, .int 0, .int 0, .int 0, .ref gdraft, .ref grow, .ref growMany, .ref growFloats, .ref gsaved, .int 0, .int 0, .int 0]))] s.heap := hP
  have hl := lv_entry ([.ref m0, .int p0, .int p1]) (n := 3) (Nat.le_of_ble_eq_true rfl)
  rw [lg_entry_eq]
  generalize (lg_sl ([.ref m0, .int p0, .int p1]) ++ List.replicate (3 - (lg_sl ([.ref m0, .int p0, .int p1])).length) Slot.unset).toArray = ls at hl ⊢
  have hl : lv_has ls 3 [(0, .ref m0), (1, .int p0), (2, .int p1)] := hl
  refine lv_iload_n hx hb dX12_pending_0 rfl (lv_at hl 1 rfl) ?_
  refine lv_iconst (v := (-1)) hx hb dX12_pending_1 (by decide) ?_
  refine lv_icmp_ne (tgt := 10) hx hb dX12_pending_2 (by decide) (fun c_1 => ?_) (fun c_1 => ?_)
  · refine lv_iload_n hx hb dX12_pending_10 rfl (lv_at hl 1 rfl) ?_
    refine lv_iconst (v := 0) hx hb dX12_pending_11 (by decide) ?_
    refine lv_aload_n hx hb dX12_pending_12 rfl (lv_at hl 0 rfl) ?_
    refine va_get (D := D) (ci := 12) (v := .int 0) (C := RX12) (T := TX12) (N := 63) hx hb hts in_X12 hown hK hP 0 rfl rfl 28 (by decide) (hts _ q_1048) (fun _ h9 => h9) rfl dX12_pending_13 ?_
    refine lv_iconst (v := 1) hx hb dX12_pending_16 (by decide) ?_
    refine lv_isub hx hb dX12_pending_17 ?_
    refine lv_cst (v := (-1)) (by decide) ?_
    refine p_call (va_runS (As := [.int p0, .int 0, .int (-1)]) (rest := []) ⟨hx, hb, hml, hown, hts⟩ (c_X12_isBetween l D cI cQ cM cR p0 0 (-1)) (va_cwS 3 hts (gS q_1214 q_1215 q_76 q_1216) rfl rfl rfl (by decide +kernel) ⟨Nat.le_of_ble_eq_true rfl, Nat.le_of_ble_eq_true rfl⟩) ⟨PP_blind, PP_of hK (hP.sub [] rfl)⟩ rfl rfl hl.1 rfl (lv_room (Nat.le_of_ble_eq_true rfl)) dX12_pending_18 ⟨Nat.le_of_ble_eq_true rfl, Nat.le_of_ble_eq_true rfl⟩) ?_
    refine lv_cst (v := 0) (btw_none p0) ?_
    refine lv_if_eq (tgt := 33) hx hb dX12_pending_21 (by decide) (fun _ => ?_) (fun c9 => absurd (by decide) c9)
    refine lv_iconst (v := (-1)) hx hb dX12_pending_33 (by decide) ?_
    exact W.iret hx hb hr (fun t ht hW => ⟨by first | rfl | (simp only [sp_m1, c_1, ↓reduceIte, if_true, if_false, not_true_eq_false, not_false_eq_true]; done) | (simp [sp_m1, c_1]; done), ht⟩) (fun q hq => absurd hq List.not_mem_nil) dX12_pending_34
  · refine lv_aload_n hx hb dX12_pending_5 rfl (lv_at hl 0 rfl) ?_
    refine va_get (D := D) (ci := 12) (v := .int 0) (C := RX12) (T := TX12) (N := 63) hx hb hts in_X12 hown hK hP 0 rfl rfl 28 (by decide) (hts _ q_1048) (fun _ h9 => h9) rfl dX12_pending_6 ?_
    exact W.iret hx hb hr (fun t ht hW => ⟨by first | rfl | (simp only [sp_m1, c_1, ↓reduceIte, if_true, if_false, not_true_eq_false, not_false_eq_true]; done) | (simp [sp_m1, c_1]; done), ht⟩) (fun q hq => absurd hq List.not_mem_nil) dX12_pending_9
theorem dX12_text_0 : decode cX12_text 0 = .ok (.aload_n 0, 1) := by decide +kernel
theorem dX12_text_1 : decode cX12_text 1 = .ok (.iload_n 1, 1) := by decide +kernel
theorem dX12_text_2 : decode cX12_text 2 = .ok (.invokevirtual 328, 3) := by decide +kernel
theorem dX12_text_5 : decode cX12_text 5 = .ok (.ifCond .eq 19, 3) := by decide +kernel
theorem dX12_text_24 : decode cX12_text 24 = .ok (.iconst (-1), 1) := by decide +kernel
theorem dX12_text_25 : decode cX12_text 25 = .ok (.ireturn, 1) := by decide +kernel
set_option maxRecDepth 100000 in
theorem q_1420 : (.code yX12_isQuestion cX12_isQuestion 2 (some .boolean)) ∈ lw_all := List.mem_filter.mpr ⟨List.mem_of_getElem? (i := 1420) (rfl), by decide +kernel⟩
set_option maxRecDepth 100000 in
theorem q_1419 : (.instanceMethod yX12_isQuestion) ∈ lw_all := List.mem_filter.mpr ⟨List.mem_of_getElem? (i := 1419) (by decide +kernel), by decide +kernel⟩
set_option maxRecDepth 100000 in
theorem q_1417 : (.methodLink RX12 328 yX12_isQuestion) ∈ lw_all := List.mem_filter.mpr ⟨List.mem_of_getElem? (i := 1417) (by decide +kernel), by decide +kernel⟩
set_option maxRecDepth 100000 in
theorem q_54 : (.selects RX12 yX12_isQuestion yX12_isQuestion) ∈ lw_all := List.mem_filter.mpr ⟨List.mem_of_getElem? (i := 54) (by decide +kernel), by decide +kernel⟩
set_option maxHeartbeats 4000000 in
set_option maxRecDepth 100000 in
theorem c_X12_text (l : Launch) (D : va_G) (cI cQ cM cR : ClassId) (m0 : Nat) (gweight : Nat) (gpresent : Nat) (gspeeches : Nat) (gbuffer : Nat) (gstate : Nat) (gplace : Nat) (gmover : Nat) (gpart : Nat) (gamended : Nat) (gmany : Nat) (gclause : Nat) (gfirstMany : Nat) (gfirstClause : Nat) (gresolution : Nat) (gmotion : Nat) (gaway : Nat) (gawayMany : Nat) (gawayOrder : Nat) (gtable : Nat) (gcommittee : Nat) (glone : Nat) (gentry : Nat) (gchange : Nat) (gyesBy : Nat) (gnoBy : Nat) (gdraft : Nat) (grow : Nat) (growMany : Nat) (growFloats : Nat) (gsaved : Nat) (p0 : Int32) (p1 : Int32) : Met l yX12_text (ws_ yX12_text cX12_text 3 (some .int)) ({ frames := 1, cells := 0, slots := 0, locals := 21 }) (PP D cI cQ cM cR [.ref m0, .int p0, .int p1] [(m0, .inr (12, [.ref gweight, .ref gpresent, .ref gspeeches, .int 0, .int 50, .int 0, .int 0, .ref gbuffer, .ref gstate, .ref gplace, .ref gmover, .ref gpart, .ref gamended, .ref gmany, .ref gclause, .ref gfirstMany, .ref gfirstClause, .int 0, .int 0, .int 0, .int (-1), .ref gresolution, .ref gmotion, .ref gaway, .ref gawayMany, .ref gawayOrder, .ref gtable, .ref gcommittee, .int 0, .int 0, .int 0, .int 0, .int 0, .int 0, .int 0, .int 0, .int (-5), .int 0, .int 0, .ref glone, .int 0, .ref gentry, .ref gchange, .int 0, .int (-1), .int 0, .int 0, .ref gyesBy, .ref gnoBy, .int 0, .int 0, .int 0, .int 0, .int 0, .int 0, .ref gdraft, .ref grow, .ref growMany, .ref growFloats, .ref gsaved, .int 0, .int 0, .int 0]))]) (QP (some (.int (-1)))) 0 0 (fun _ => False) := by
  refine Met.ofW (cc := cX12_text) (maxL := 3) (ret := (some .int)) (by decide) rfl ?_
  intro p e s m args below meth c s₁ B hml hv
  obtain ⟨rfl, hP, hK⟩ := hv
  have hx := B.exec
  have hb := B.bytes
  have hr := B.returns
  have hts : ∀ w ∈ lw_all, w.before _ s = true := fun w h => atoms_spec (ws := (ws_ yX12_text cX12_text 3 (some .int))) B.pre w (List.mem_cons_of_mem _ h)
  have hown : s.vm.findClass RX12 = some m.cls := findClass_of_methodNamed B.named
  have hlocks := B.notSynchronized
  have hP : va_P D vwCl [(m0, .inr (12, [.ref gweight, .ref gpresent, .ref gspeeches, .int 0, .int 50, .int 0, .int 0, .ref gbuffer, .ref gstate, .ref gplace, .ref gmover, .ref gpart, .ref gamended, .ref gmany, .ref gclause, .ref gfirstMany, .ref gfirstClause, .int 0, .int 0, .int 0, .int (-1), .ref gresolution, .ref gmotion, .ref gaway, .ref gawayMany, .ref gawayOrder, .ref gtable, .ref gcommittee, .int 0, .int 0, .int 0, .int 0, .int 0, .int 0, .int 0, .int 0, .int (-5), .int 0, .int 0, .ref glone, .int 0, .ref gentry, .ref gchange, .int 0, .int (-1), .int 0, .int 0, .ref gyesBy, .ref gnoBy, .int 0, .int 0, .int 0, .int 0, .int 0, .int 0, .ref gdraft, .ref grow, .ref growMany, .ref growFloats, .ref gsaved, .int 0, .int 0, .int 0]))] s.heap := hP
  have hl := lv_entry ([.ref m0, .int p0, .int p1]) (n := 3) (Nat.le_of_ble_eq_true rfl)
  rw [lg_entry_eq]
  generalize (lg_sl ([.ref m0, .int p0, .int p1]) ++ List.replicate (3 - (lg_sl ([.ref m0, .int p0, .int p1])).length) Slot.unset).toArray = ls at hl ⊢
  have hl : lv_has ls 3 [(0, .ref m0), (1, .int p0), (2, .int p1)] := hl
  refine lv_aload_n hx hb dX12_text_0 rfl (lv_at hl 0 rfl) ?_
  refine lv_iload_n hx hb dX12_text_1 rfl (lv_at hl 1 rfl) ?_
  refine p_call (va_runV (As := [.int p0]) (rest := []) ⟨hx, hb, hml, hown, hts⟩ (c_X12_isQuestion l D cI cQ cM cR m0 gweight gpresent gspeeches gbuffer gstate gplace gmover gpart gamended gmany gclause gfirstMany gfirstClause gresolution gmotion gaway gawayMany gawayOrder gtable gcommittee glone gentry gchange gyesBy gnoBy gdraft grow growMany growFloats gsaved p0) (cwV 1 hts (gV q_1417 q_1419 q_54 q_76 q_1420) rfl rfl rfl (by decide +kernel) ⟨Nat.le_of_ble_eq_true rfl, Nat.le_of_ble_eq_true rfl⟩) ⟨PP_blind, va_recv hK hP (ci := 12) (q0 := 0) rfl rfl, PP_of hK (hP.sub [0] rfl)⟩ rfl rfl hl.1 rfl (lv_room (Nat.le_of_ble_eq_true rfl)) dX12_text_2 ⟨Nat.le_of_ble_eq_true rfl, Nat.le_of_ble_eq_true rfl⟩) ?_
  refine lv_if_eq (tgt := 24) hx hb dX12_text_5 (by decide) (fun _ => ?_) (fun c9 => absurd (by decide) c9)
  refine lv_iconst (v := (-1)) hx hb dX12_text_24 (by decide) ?_
  exact W.iret hx hb hr (fun t ht hW => ⟨rfl, ht⟩) (fun q hq => absurd hq List.not_mem_nil) dX12_text_25
theorem dX12_question_0 : decode cX12_question 0 = .ok (.aload_n 0, 1) := by decide +kernel
theorem dX12_question_1 : decode cX12_question 1 = .ok (.iload_n 1, 1) := by decide +kernel
theorem dX12_question_2 : decode cX12_question 2 = .ok (.invokevirtual 328, 3) := by decide +kernel
theorem dX12_question_5 : decode cX12_question 5 = .ok (.ifCond .ne 5, 3) := by decide +kernel
theorem dX12_question_8 : decode cX12_question 8 = .ok (.iconst (-1), 1) := by decide +kernel
theorem dX12_question_9 : decode cX12_question 9 = .ok (.ireturn, 1) := by decide +kernel
set_option maxHeartbeats 4000000 in
set_option maxRecDepth 100000 in
theorem c_X12_question (l : Launch) (D : va_G) (cI cQ cM cR : ClassId) (m0 : Nat) (gweight : Nat) (gpresent : Nat) (gspeeches : Nat) (gbuffer : Nat) (gstate : Nat) (gplace : Nat) (gmover : Nat) (gpart : Nat) (gamended : Nat) (gmany : Nat) (gclause : Nat) (gfirstMany : Nat) (gfirstClause : Nat) (gresolution : Nat) (gmotion : Nat) (gaway : Nat) (gawayMany : Nat) (gawayOrder : Nat) (gtable : Nat) (gcommittee : Nat) (glone : Nat) (gentry : Nat) (gchange : Nat) (gyesBy : Nat) (gnoBy : Nat) (gdraft : Nat) (grow : Nat) (growMany : Nat) (growFloats : Nat) (gsaved : Nat) (p0 : Int32) (p1 : Int32) : Met l yX12_question (ws_ yX12_question cX12_question 3 (some .int)) ({ frames := 1, cells := 0, slots := 0, locals := 21 }) (PP D cI cQ cM cR [.ref m0, .int p0, .int p1] [(m0, .inr (12, [.ref gweight, .ref gpresent, .ref gspeeches, .int 0, .int 50, .int 0, .int 0, .ref gbuffer, .ref gstate, .ref gplace, .ref gmover, .ref gpart, .ref gamended, .ref gmany, .ref gclause, .ref gfirstMany, .ref gfirstClause, .int 0, .int 0, .int 0, .int (-1), .ref gresolution, .ref gmotion, .ref gaway, .ref gawayMany, .ref gawayOrder, .ref gtable, .ref gcommittee, .int 0, .int 0, .int 0, .int 0, .int 0, .int 0, .int 0, .int 0, .int (-5), .int 0, .int 0, .ref glone, .int 0, .ref gentry, .ref gchange, .int 0, .int (-1), .int 0, .int 0, .ref gyesBy, .ref gnoBy, .int 0, .int 0, .int 0, .int 0, .int 0, .int 0, .ref gdraft, .ref grow, .ref growMany, .ref growFloats, .ref gsaved, .int 0, .int 0, .int 0]))]) (QP (some (.int (-1)))) 0 0 (fun _ => False) := by
  refine Met.ofW (cc := cX12_question) (maxL := 3) (ret := (some .int)) (by decide) rfl ?_
  intro p e s m args below meth c s₁ B hml hv
  obtain ⟨rfl, hP, hK⟩ := hv
  have hx := B.exec
  have hb := B.bytes
  have hr := B.returns
  have hts : ∀ w ∈ lw_all, w.before _ s = true := fun w h => atoms_spec (ws := (ws_ yX12_question cX12_question 3 (some .int))) B.pre w (List.mem_cons_of_mem _ h)
  have hown : s.vm.findClass RX12 = some m.cls := findClass_of_methodNamed B.named
  have hlocks := B.notSynchronized
  have hP : va_P D vwCl [(m0, .inr (12, [.ref gweight, .ref gpresent, .ref gspeeches, .int 0, .int 50, .int 0, .int 0, .ref gbuffer, .ref gstate, .ref gplace, .ref gmover, .ref gpart, .ref gamended, .ref gmany, .ref gclause, .ref gfirstMany, .ref gfirstClause, .int 0, .int 0, .int 0, .int (-1), .ref gresolution, .ref gmotion, .ref gaway, .ref gawayMany, .ref gawayOrder, .ref gtable, .ref gcommittee, .int 0, .int 0, .int 0, .int 0, .int 0, .int 0, .int 0, .int 0, .int (-5), .int 0, .int 0, .ref glone, .int 0, .ref gentry, .ref gchange, .int 0, .int (-1), .int 0, .int 0, .ref gyesBy, .ref gnoBy, .int 0, .int 0, .int 0, .int 0, .int 0, .int 0, .ref gdraft, .ref grow, .ref growMany, .ref growFloats, .ref gsaved, .int 0, .int 0, .int 0]))] s.heap := hP
  have hl := lv_entry ([.ref m0, .int p0, .int p1]) (n := 3) (Nat.le_of_ble_eq_true rfl)
  rw [lg_entry_eq]
  generalize (lg_sl ([.ref m0, .int p0, .int p1]) ++ List.replicate (3 - (lg_sl ([.ref m0, .int p0, .int p1])).length) Slot.unset).toArray = ls at hl ⊢
  have hl : lv_has ls 3 [(0, .ref m0), (1, .int p0), (2, .int p1)] := hl
  refine lv_aload_n hx hb dX12_question_0 rfl (lv_at hl 0 rfl) ?_
  refine lv_iload_n hx hb dX12_question_1 rfl (lv_at hl 1 rfl) ?_
  refine p_call (va_runV (As := [.int p0]) (rest := []) ⟨hx, hb, hml, hown, hts⟩ (c_X12_isQuestion l D cI cQ cM cR m0 gweight gpresent gspeeches gbuffer gstate gplace gmover gpart gamended gmany gclause gfirstMany gfirstClause gresolution gmotion gaway gawayMany gawayOrder gtable gcommittee glone gentry gchange gyesBy gnoBy gdraft grow growMany growFloats gsaved p0) (cwV 1 hts (gV q_1417 q_1419 q_54 q_76 q_1420) rfl rfl rfl (by decide +kernel) ⟨Nat.le_of_ble_eq_true rfl, Nat.le_of_ble_eq_true rfl⟩) ⟨PP_blind, va_recv hK hP (ci := 12) (q0 := 0) rfl rfl, PP_of hK (hP.sub [0] rfl)⟩ rfl rfl hl.1 rfl (lv_room (Nat.le_of_ble_eq_true rfl)) dX12_question_2 ⟨Nat.le_of_ble_eq_true rfl, Nat.le_of_ble_eq_true rfl⟩) ?_
  refine lv_if_ne (tgt := 10) hx hb dX12_question_5 (by decide) (fun c9 => absurd (by decide) c9) (fun _ => ?_)
  refine lv_iconst (v := (-1)) hx hb dX12_question_8 (by decide) ?_
  exact W.iret hx hb hr (fun t ht hW => ⟨rfl, ht⟩) (fun q hq => absurd hq List.not_mem_nil) dX12_question_9
theorem dX12_draft_0 : decode cX12_draft 0 = .ok (.aload_n 0, 1) := by decide +kernel
theorem dX12_draft_1 : decode cX12_draft 1 = .ok (.getfield 55, 3) := by decide +kernel
theorem dX12_draft_4 : decode cX12_draft 4 = .ok (.ifCond .ge 6, 3) := by decide +kernel
theorem dX12_draft_7 : decode cX12_draft 7 = .ok (.bipush (-3), 2) := by decide +kernel
theorem dX12_draft_9 : decode cX12_draft 9 = .ok (.ireturn, 1) := by decide +kernel
set_option maxRecDepth 100000 in
theorem q_1040 : (.fieldLink RX12 55 "AssemblyChairModel" "asked" "I") ∈ lw_all := List.mem_filter.mpr ⟨List.mem_of_getElem? (i := 1040) (by decide +kernel), by decide +kernel⟩
set_option maxHeartbeats 4000000 in
set_option maxRecDepth 100000 in
theorem c_X12_draft (l : Launch) (D : va_G) (cI cQ cM cR : ClassId) (m0 : Nat) (gweight : Nat) (gpresent : Nat) (gspeeches : Nat) (gbuffer : Nat) (gstate : Nat) (gplace : Nat) (gmover : Nat) (gpart : Nat) (gamended : Nat) (gmany : Nat) (gclause : Nat) (gfirstMany : Nat) (gfirstClause : Nat) (gresolution : Nat) (gmotion : Nat) (gaway : Nat) (gawayMany : Nat) (gawayOrder : Nat) (gtable : Nat) (gcommittee : Nat) (glone : Nat) (gentry : Nat) (gchange : Nat) (gyesBy : Nat) (gnoBy : Nat) (gdraft : Nat) (grow : Nat) (growMany : Nat) (growFloats : Nat) (gsaved : Nat) (p0 : Int32) : Met l yX12_draft (ws_ yX12_draft cX12_draft 3 (some .int)) ({ frames := 0, cells := 0, slots := 0, locals := 0 }) (PP D cI cQ cM cR [.ref m0, .int p0] [(m0, .inr (12, [.ref gweight, .ref gpresent, .ref gspeeches, .int 0, .int 50, .int 0, .int 0, .ref gbuffer, .ref gstate, .ref gplace, .ref gmover, .ref gpart, .ref gamended, .ref gmany, .ref gclause, .ref gfirstMany, .ref gfirstClause, .int 0, .int 0, .int 0, .int (-1), .ref gresolution, .ref gmotion, .ref gaway, .ref gawayMany, .ref gawayOrder, .ref gtable, .ref gcommittee, .int 0, .int 0, .int 0, .int 0, .int 0, .int 0, .int 0, .int 0, .int (-5), .int 0, .int 0, .ref glone, .int 0, .ref gentry, .ref gchange, .int 0, .int (-1), .int 0, .int 0, .ref gyesBy, .ref gnoBy, .int 0, .int 0, .int 0, .int 0, .int 0, .int 0, .ref gdraft, .ref grow, .ref growMany, .ref growFloats, .ref gsaved, .int 0, .int 0, .int 0]))]) (QP (some (.int (-3)))) 0 0 (fun _ => False) := by
  refine Met.ofW (cc := cX12_draft) (maxL := 3) (ret := (some .int)) (by decide) rfl ?_
  intro p e s m args below meth c s₁ B hml hv
  obtain ⟨rfl, hP, hK⟩ := hv
  have hx := B.exec
  have hb := B.bytes
  have hr := B.returns
  have hts : ∀ w ∈ lw_all, w.before _ s = true := fun w h => atoms_spec (ws := (ws_ yX12_draft cX12_draft 3 (some .int))) B.pre w (List.mem_cons_of_mem _ h)
  have hown : s.vm.findClass RX12 = some m.cls := findClass_of_methodNamed B.named
  have hlocks := B.notSynchronized
  have hP : va_P D vwCl [(m0, .inr (12, [.ref gweight, .ref gpresent, .ref gspeeches, .int 0, .int 50, .int 0, .int 0, .ref gbuffer, .ref gstate, .ref gplace, .ref gmover, .ref gpart, .ref gamended, .ref gmany, .ref gclause, .ref gfirstMany, .ref gfirstClause, .int 0, .int 0, .int 0, .int (-1), .ref gresolution, .ref gmotion, .ref gaway, .ref gawayMany, .ref gawayOrder, .ref gtable, .ref gcommittee, .int 0, .int 0, .int 0, .int 0, .int 0, .int 0, .int 0, .int 0, .int (-5), .int 0, .int 0, .ref glone, .int 0, .ref gentry, .ref gchange, .int 0, .int (-1), .int 0, .int 0, .ref gyesBy, .ref gnoBy, .int 0, .int 0, .int 0, .int 0, .int 0, .int 0, .ref gdraft, .ref grow, .ref growMany, .ref growFloats, .ref gsaved, .int 0, .int 0, .int 0]))] s.heap := hP
  have hl := lv_entry ([.ref m0, .int p0]) (n := 3) (Nat.le_of_ble_eq_true rfl)
  rw [lg_entry_eq]
  generalize (lg_sl ([.ref m0, .int p0]) ++ List.replicate (3 - (lg_sl ([.ref m0, .int p0])).length) Slot.unset).toArray = ls at hl ⊢
  have hl : lv_has ls 3 [(0, .ref m0), (1, .int p0)] := hl
  refine lv_aload_n hx hb dX12_draft_0 rfl (lv_at hl 0 rfl) ?_
  refine va_get (D := D) (ci := 12) (v := .int (-1)) (C := RX12) (T := TX12) (N := 63) hx hb hts in_X12 hown hK hP 0 rfl rfl 20 (by decide) (hts _ q_1040) (fun _ h9 => h9) rfl dX12_draft_1 ?_
  refine lv_if_ge (tgt := 10) hx hb dX12_draft_4 (by decide) (fun c9 => absurd c9 (by decide)) (fun _ => ?_)
  refine lv_bipush (v := (-3)) hx hb dX12_draft_7 (by decide) ?_
  exact W.iret hx hb hr (fun t ht hW => ⟨rfl, ht⟩) (fun q hq => absurd hq List.not_mem_nil) dX12_draft_9
theorem dX12_resolution_0 : decode cX12_resolution 0 = .ok (.iload_n 1, 1) := by decide +kernel
theorem dX12_resolution_1 : decode cX12_resolution 1 = .ok (.iconst 0, 1) := by decide +kernel
theorem dX12_resolution_2 : decode cX12_resolution 2 = .ok (.aload_n 0, 1) := by decide +kernel
theorem dX12_resolution_3 : decode cX12_resolution 3 = .ok (.getfield 243, 3) := by decide +kernel
theorem dX12_resolution_6 : decode cX12_resolution 6 = .ok (.iconst 1, 1) := by decide +kernel
theorem dX12_resolution_7 : decode cX12_resolution 7 = .ok (.isub, 1) := by decide +kernel
theorem dX12_resolution_8 : decode cX12_resolution 8 = .ok (.invokestatic 130, 3) := by decide +kernel
theorem dX12_resolution_11 : decode cX12_resolution 11 = .ok (.ifCond .ne 5, 3) := by decide +kernel
theorem dX12_resolution_14 : decode cX12_resolution 14 = .ok (.iconst (-1), 1) := by decide +kernel
theorem dX12_resolution_15 : decode cX12_resolution 15 = .ok (.ireturn, 1) := by decide +kernel
set_option maxRecDepth 100000 in
theorem q_1039 : (.fieldLink RX12 243 "AssemblyChairModel" "resolutions" "I") ∈ lw_all := List.mem_filter.mpr ⟨List.mem_of_getElem? (i := 1039) (by decide +kernel), by decide +kernel⟩
set_option maxHeartbeats 4000000 in
set_option maxRecDepth 100000 in
theorem c_X12_resolution (l : Launch) (D : va_G) (cI cQ cM cR : ClassId) (m0 : Nat) (gweight : Nat) (gpresent : Nat) (gspeeches : Nat) (gbuffer : Nat) (gstate : Nat) (gplace : Nat) (gmover : Nat) (gpart : Nat) (gamended : Nat) (gmany : Nat) (gclause : Nat) (gfirstMany : Nat) (gfirstClause : Nat) (gresolution : Nat) (gmotion : Nat) (gaway : Nat) (gawayMany : Nat) (gawayOrder : Nat) (gtable : Nat) (gcommittee : Nat) (glone : Nat) (gentry : Nat) (gchange : Nat) (gyesBy : Nat) (gnoBy : Nat) (gdraft : Nat) (grow : Nat) (growMany : Nat) (growFloats : Nat) (gsaved : Nat) (p0 : Int32) (p1 : Int32) : Met l yX12_resolution (ws_ yX12_resolution cX12_resolution 4 (some .int)) ({ frames := 1, cells := 0, slots := 0, locals := 22 }) (PP D cI cQ cM cR [.ref m0, .int p0, .int p1] [(m0, .inr (12, [.ref gweight, .ref gpresent, .ref gspeeches, .int 0, .int 50, .int 0, .int 0, .ref gbuffer, .ref gstate, .ref gplace, .ref gmover, .ref gpart, .ref gamended, .ref gmany, .ref gclause, .ref gfirstMany, .ref gfirstClause, .int 0, .int 0, .int 0, .int (-1), .ref gresolution, .ref gmotion, .ref gaway, .ref gawayMany, .ref gawayOrder, .ref gtable, .ref gcommittee, .int 0, .int 0, .int 0, .int 0, .int 0, .int 0, .int 0, .int 0, .int (-5), .int 0, .int 0, .ref glone, .int 0, .ref gentry, .ref gchange, .int 0, .int (-1), .int 0, .int 0, .ref gyesBy, .ref gnoBy, .int 0, .int 0, .int 0, .int 0, .int 0, .int 0, .ref gdraft, .ref grow, .ref growMany, .ref growFloats, .ref gsaved, .int 0, .int 0, .int 0]))]) (QP (some (.int (-1)))) 0 0 (fun _ => False) := by
  refine Met.ofW (cc := cX12_resolution) (maxL := 4) (ret := (some .int)) (by decide) rfl ?_
  intro p e s m args below meth c s₁ B hml hv
  obtain ⟨rfl, hP, hK⟩ := hv
  have hx := B.exec
  have hb := B.bytes
  have hr := B.returns
  have hts : ∀ w ∈ lw_all, w.before _ s = true := fun w h => atoms_spec (ws := (ws_ yX12_resolution cX12_resolution 4 (some .int))) B.pre w (List.mem_cons_of_mem _ h)
  have hown : s.vm.findClass RX12 = some m.cls := findClass_of_methodNamed B.named
  have hlocks := B.notSynchronized
  have hP : va_P D vwCl [(m0, .inr (12, [.ref gweight, .ref gpresent, .ref gspeeches, .int 0, .int 50, .int 0, .int 0, .ref gbuffer, .ref gstate, .ref gplace, .ref gmover, .ref gpart, .ref gamended, .ref gmany, .ref gclause, .ref gfirstMany, .ref gfirstClause, .int 0, .int 0, .int 0, .int (-1), .ref gresolution, .ref gmotion, .ref gaway, .ref gawayMany, .ref gawayOrder, .ref gtable, .ref gcommittee, .int 0, .int 0, .int 0, .int 0, .int 0, .int 0, .int 0, .int 0, .int (-5), .int 0, .int 0, .ref glone, .int 0, .ref gentry, .ref gchange, .int 0, .int (-1), .int 0, .int 0, .ref gyesBy, .ref gnoBy, .int 0, .int 0, .int 0, .int 0, .int 0, .int 0, .ref gdraft, .ref grow, .ref growMany, .ref growFloats, .ref gsaved, .int 0, .int 0, .int 0]))] s.heap := hP
  have hl := lv_entry ([.ref m0, .int p0, .int p1]) (n := 4) (Nat.le_of_ble_eq_true rfl)
  rw [lg_entry_eq]
  generalize (lg_sl ([.ref m0, .int p0, .int p1]) ++ List.replicate (4 - (lg_sl ([.ref m0, .int p0, .int p1])).length) Slot.unset).toArray = ls at hl ⊢
  have hl : lv_has ls 4 [(0, .ref m0), (1, .int p0), (2, .int p1)] := hl
  refine lv_iload_n hx hb dX12_resolution_0 rfl (lv_at hl 1 rfl) ?_
  refine lv_iconst (v := 0) hx hb dX12_resolution_1 (by decide) ?_
  refine lv_aload_n hx hb dX12_resolution_2 rfl (lv_at hl 0 rfl) ?_
  refine va_get (D := D) (ci := 12) (v := .int 0) (C := RX12) (T := TX12) (N := 63) hx hb hts in_X12 hown hK hP 0 rfl rfl 19 (by decide) (hts _ q_1039) (fun _ h9 => h9) rfl dX12_resolution_3 ?_
  refine lv_iconst (v := 1) hx hb dX12_resolution_6 (by decide) ?_
  refine lv_isub hx hb dX12_resolution_7 ?_
  refine lv_cst (v := (-1)) (by decide) ?_
  refine p_call (va_runS (As := [.int p0, .int 0, .int (-1)]) (rest := []) ⟨hx, hb, hml, hown, hts⟩ (c_X12_isBetween l D cI cQ cM cR p0 0 (-1)) (va_cwS 3 hts (gS q_1214 q_1215 q_76 q_1216) rfl rfl rfl (by decide +kernel) ⟨Nat.le_of_ble_eq_true rfl, Nat.le_of_ble_eq_true rfl⟩) ⟨PP_blind, PP_of hK (hP.sub [] rfl)⟩ rfl rfl hl.1 rfl (lv_room (Nat.le_of_ble_eq_true rfl)) dX12_resolution_8 ⟨Nat.le_of_ble_eq_true rfl, Nat.le_of_ble_eq_true rfl⟩) ?_
  refine lv_cst (v := 0) (btw_none p0) ?_
  refine lv_if_ne (tgt := 16) hx hb dX12_resolution_11 (by decide) (fun c9 => absurd (by decide) c9) (fun _ => ?_)
  refine lv_iconst (v := (-1)) hx hb dX12_resolution_14 (by decide) ?_
  exact W.iret hx hb hr (fun t ht hW => ⟨rfl, ht⟩) (fun q hq => absurd hq List.not_mem_nil) dX12_resolution_15
theorem dX12_replayed_0 : decode cX12_replayed 0 = .ok (.iload_n 1, 1) := by decide +kernel
theorem dX12_replayed_1 : decode cX12_replayed 1 = .ok (.iconst 0, 1) := by decide +kernel
theorem dX12_replayed_2 : decode cX12_replayed 2 = .ok (.aload_n 0, 1) := by decide +kernel
theorem dX12_replayed_3 : decode cX12_replayed 3 = .ok (.getfield 243, 3) := by decide +kernel
theorem dX12_replayed_6 : decode cX12_replayed 6 = .ok (.iconst 1, 1) := by decide +kernel
theorem dX12_replayed_7 : decode cX12_replayed 7 = .ok (.isub, 1) := by decide +kernel
theorem dX12_replayed_8 : decode cX12_replayed 8 = .ok (.invokestatic 130, 3) := by decide +kernel
theorem dX12_replayed_11 : decode cX12_replayed 11 = .ok (.ifCond .ne 5, 3) := by decide +kernel
theorem dX12_replayed_14 : decode cX12_replayed 14 = .ok (.iconst (-1), 1) := by decide +kernel
theorem dX12_replayed_15 : decode cX12_replayed 15 = .ok (.ireturn, 1) := by decide +kernel
set_option maxHeartbeats 4000000 in
set_option maxRecDepth 100000 in
theorem c_X12_replayed (l : Launch) (D : va_G) (cI cQ cM cR : ClassId) (m0 : Nat) (gweight : Nat) (gpresent : Nat) (gspeeches : Nat) (gbuffer : Nat) (gstate : Nat) (gplace : Nat) (gmover : Nat) (gpart : Nat) (gamended : Nat) (gmany : Nat) (gclause : Nat) (gfirstMany : Nat) (gfirstClause : Nat) (gresolution : Nat) (gmotion : Nat) (gaway : Nat) (gawayMany : Nat) (gawayOrder : Nat) (gtable : Nat) (gcommittee : Nat) (glone : Nat) (gentry : Nat) (gchange : Nat) (gyesBy : Nat) (gnoBy : Nat) (gdraft : Nat) (grow : Nat) (growMany : Nat) (growFloats : Nat) (gsaved : Nat) (p0 : Int32) : Met l yX12_replayed (ws_ yX12_replayed cX12_replayed 6 (some .int)) ({ frames := 1, cells := 0, slots := 0, locals := 22 }) (PP D cI cQ cM cR [.ref m0, .int p0] [(m0, .inr (12, [.ref gweight, .ref gpresent, .ref gspeeches, .int 0, .int 50, .int 0, .int 0, .ref gbuffer, .ref gstate, .ref gplace, .ref gmover, .ref gpart, .ref gamended, .ref gmany, .ref gclause, .ref gfirstMany, .ref gfirstClause, .int 0, .int 0, .int 0, .int (-1), .ref gresolution, .ref gmotion, .ref gaway, .ref gawayMany, .ref gawayOrder, .ref gtable, .ref gcommittee, .int 0, .int 0, .int 0, .int 0, .int 0, .int 0, .int 0, .int 0, .int (-5), .int 0, .int 0, .ref glone, .int 0, .ref gentry, .ref gchange, .int 0, .int (-1), .int 0, .int 0, .ref gyesBy, .ref gnoBy, .int 0, .int 0, .int 0, .int 0, .int 0, .int 0, .ref gdraft, .ref grow, .ref growMany, .ref growFloats, .ref gsaved, .int 0, .int 0, .int 0]))]) (QP (some (.int (-1)))) 0 0 (fun _ => False) := by
  refine Met.ofW (cc := cX12_replayed) (maxL := 6) (ret := (some .int)) (by decide) rfl ?_
  intro p e s m args below meth c s₁ B hml hv
  obtain ⟨rfl, hP, hK⟩ := hv
  have hx := B.exec
  have hb := B.bytes
  have hr := B.returns
  have hts : ∀ w ∈ lw_all, w.before _ s = true := fun w h => atoms_spec (ws := (ws_ yX12_replayed cX12_replayed 6 (some .int))) B.pre w (List.mem_cons_of_mem _ h)
  have hown : s.vm.findClass RX12 = some m.cls := findClass_of_methodNamed B.named
  have hlocks := B.notSynchronized
  have hP : va_P D vwCl [(m0, .inr (12, [.ref gweight, .ref gpresent, .ref gspeeches, .int 0, .int 50, .int 0, .int 0, .ref gbuffer, .ref gstate, .ref gplace, .ref gmover, .ref gpart, .ref gamended, .ref gmany, .ref gclause, .ref gfirstMany, .ref gfirstClause, .int 0, .int 0, .int 0, .int (-1), .ref gresolution, .ref gmotion, .ref gaway, .ref gawayMany, .ref gawayOrder, .ref gtable, .ref gcommittee, .int 0, .int 0, .int 0, .int 0, .int 0, .int 0, .int 0, .int 0, .int (-5), .int 0, .int 0, .ref glone, .int 0, .ref gentry, .ref gchange, .int 0, .int (-1), .int 0, .int 0, .ref gyesBy, .ref gnoBy, .int 0, .int 0, .int 0, .int 0, .int 0, .int 0, .ref gdraft, .ref grow, .ref growMany, .ref growFloats, .ref gsaved, .int 0, .int 0, .int 0]))] s.heap := hP
  have hl := lv_entry ([.ref m0, .int p0]) (n := 6) (Nat.le_of_ble_eq_true rfl)
  rw [lg_entry_eq]
  generalize (lg_sl ([.ref m0, .int p0]) ++ List.replicate (6 - (lg_sl ([.ref m0, .int p0])).length) Slot.unset).toArray = ls at hl ⊢
  have hl : lv_has ls 6 [(0, .ref m0), (1, .int p0)] := hl
  refine lv_iload_n hx hb dX12_replayed_0 rfl (lv_at hl 1 rfl) ?_
  refine lv_iconst (v := 0) hx hb dX12_replayed_1 (by decide) ?_
  refine lv_aload_n hx hb dX12_replayed_2 rfl (lv_at hl 0 rfl) ?_
  refine va_get (D := D) (ci := 12) (v := .int 0) (C := RX12) (T := TX12) (N := 63) hx hb hts in_X12 hown hK hP 0 rfl rfl 19 (by decide) (hts _ q_1039) (fun _ h9 => h9) rfl dX12_replayed_3 ?_
  refine lv_iconst (v := 1) hx hb dX12_replayed_6 (by decide) ?_
  refine lv_isub hx hb dX12_replayed_7 ?_
  refine lv_cst (v := (-1)) (by decide) ?_
  refine p_call (va_runS (As := [.int p0, .int 0, .int (-1)]) (rest := []) ⟨hx, hb, hml, hown, hts⟩ (c_X12_isBetween l D cI cQ cM cR p0 0 (-1)) (va_cwS 3 hts (gS q_1214 q_1215 q_76 q_1216) rfl rfl rfl (by decide +kernel) ⟨Nat.le_of_ble_eq_true rfl, Nat.le_of_ble_eq_true rfl⟩) ⟨PP_blind, PP_of hK (hP.sub [] rfl)⟩ rfl rfl hl.1 rfl (lv_room (Nat.le_of_ble_eq_true rfl)) dX12_replayed_8 ⟨Nat.le_of_ble_eq_true rfl, Nat.le_of_ble_eq_true rfl⟩) ?_
  refine lv_cst (v := 0) (btw_none p0) ?_
  refine lv_if_ne (tgt := 16) hx hb dX12_replayed_11 (by decide) (fun c9 => absurd (by decide) c9) (fun _ => ?_)
  refine lv_iconst (v := (-1)) hx hb dX12_replayed_14 (by decide) ?_
  exact W.iret hx hb hr (fun t ht hW => ⟨rfl, ht⟩) (fun q hq => absurd hq List.not_mem_nil) dX12_replayed_15
theorem dX12_entry_0 : decode cX12_entry 0 = .ok (.iload_n 1, 1) := by decide +kernel
theorem dX12_entry_1 : decode cX12_entry 1 = .ok (.iconst (-1), 1) := by decide +kernel
theorem dX12_entry_2 : decode cX12_entry 2 = .ok (.if_icmp .ne 8, 3) := by decide +kernel
theorem dX12_entry_5 : decode cX12_entry 5 = .ok (.aload_n 0, 1) := by decide +kernel
theorem dX12_entry_6 : decode cX12_entry 6 = .ok (.getfield 174, 3) := by decide +kernel
theorem dX12_entry_9 : decode cX12_entry 9 = .ok (.ireturn, 1) := by decide +kernel
theorem dX12_entry_10 : decode cX12_entry 10 = .ok (.aload_n 0, 1) := by decide +kernel
theorem dX12_entry_11 : decode cX12_entry 11 = .ok (.getfield 174, 3) := by decide +kernel
theorem dX12_entry_14 : decode cX12_entry 14 = .ok (.bipush 120, 2) := by decide +kernel
theorem dX12_entry_16 : decode cX12_entry 16 = .ok (.if_icmp .ge 10, 3) := by decide +kernel
theorem dX12_entry_19 : decode cX12_entry 19 = .ok (.aload_n 0, 1) := by decide +kernel
theorem dX12_entry_20 : decode cX12_entry 20 = .ok (.getfield 174, 3) := by decide +kernel
theorem dX12_entry_23 : decode cX12_entry 23 = .ok (.goto 5, 3) := by decide +kernel
theorem dX12_entry_28 : decode cX12_entry 28 = .ok (.istore_n 3, 1) := by decide +kernel
theorem dX12_entry_29 : decode cX12_entry 29 = .ok (.iload_n 1, 1) := by decide +kernel
theorem dX12_entry_30 : decode cX12_entry 30 = .ok (.iconst 0, 1) := by decide +kernel
theorem dX12_entry_31 : decode cX12_entry 31 = .ok (.iload_n 3, 1) := by decide +kernel
theorem dX12_entry_32 : decode cX12_entry 32 = .ok (.iconst 1, 1) := by decide +kernel
theorem dX12_entry_33 : decode cX12_entry 33 = .ok (.isub, 1) := by decide +kernel
theorem dX12_entry_34 : decode cX12_entry 34 = .ok (.invokestatic 130, 3) := by decide +kernel
theorem dX12_entry_37 : decode cX12_entry 37 = .ok (.ifCond .eq 25, 3) := by decide +kernel
theorem dX12_entry_62 : decode cX12_entry 62 = .ok (.iconst (-1), 1) := by decide +kernel
theorem dX12_entry_63 : decode cX12_entry 63 = .ok (.ireturn, 1) := by decide +kernel
set_option maxRecDepth 100000 in
theorem q_1063 : (.fieldLink RX12 174 "AssemblyChairModel" "entries" "I") ∈ lw_all := List.mem_filter.mpr ⟨List.mem_of_getElem? (i := 1063) (by decide +kernel), by decide +kernel⟩
set_option maxHeartbeats 4000000 in
set_option maxRecDepth 100000 in
theorem c_X12_entry (l : Launch) (D : va_G) (cI cQ cM cR : ClassId) (m0 : Nat) (gweight : Nat) (gpresent : Nat) (gspeeches : Nat) (gbuffer : Nat) (gstate : Nat) (gplace : Nat) (gmover : Nat) (gpart : Nat) (gamended : Nat) (gmany : Nat) (gclause : Nat) (gfirstMany : Nat) (gfirstClause : Nat) (gresolution : Nat) (gmotion : Nat) (gaway : Nat) (gawayMany : Nat) (gawayOrder : Nat) (gtable : Nat) (gcommittee : Nat) (glone : Nat) (gentry : Nat) (gchange : Nat) (gyesBy : Nat) (gnoBy : Nat) (gdraft : Nat) (grow : Nat) (growMany : Nat) (growFloats : Nat) (gsaved : Nat) (p0 : Int32) (p1 : Int32) : Met l yX12_entry (ws_ yX12_entry cX12_entry 4 (some .int)) ({ frames := 1, cells := 0, slots := 0, locals := 22 }) (PP D cI cQ cM cR [.ref m0, .int p0, .int p1] [(m0, .inr (12, [.ref gweight, .ref gpresent, .ref gspeeches, .int 0, .int 50, .int 0, .int 0, .ref gbuffer, .ref gstate, .ref gplace, .ref gmover, .ref gpart, .ref gamended, .ref gmany, .ref gclause, .ref gfirstMany, .ref gfirstClause, .int 0, .int 0, .int 0, .int (-1), .ref gresolution, .ref gmotion, .ref gaway, .ref gawayMany, .ref gawayOrder, .ref gtable, .ref gcommittee, .int 0, .int 0, .int 0, .int 0, .int 0, .int 0, .int 0, .int 0, .int (-5), .int 0, .int 0, .ref glone, .int 0, .ref gentry, .ref gchange, .int 0, .int (-1), .int 0, .int 0, .ref gyesBy, .ref gnoBy, .int 0, .int 0, .int 0, .int 0, .int 0, .int 0, .ref gdraft, .ref grow, .ref growMany, .ref growFloats, .ref gsaved, .int 0, .int 0, .int 0]))]) (QP (some (.int (sp_m1 p0)))) 0 0 (fun _ => False) := by
  refine Met.ofW (cc := cX12_entry) (maxL := 4) (ret := (some .int)) (by decide) rfl ?_
  intro p e s m args below meth c s₁ B hml hv
  obtain ⟨rfl, hP, hK⟩ := hv
  have hx := B.exec
  have hb := B.bytes
  have hr := B.returns
  have hts : ∀ w ∈ lw_all, w.before _ s = true := fun w h => atoms_spec (ws := (ws_ yX12_entry cX12_entry 4 (some .int))) B.pre w (List.mem_cons_of_mem _ h)
  have hown : s.vm.findClass RX12 = some m.cls := findClass_of_methodNamed B.named
  have hlocks := B.notSynchronized
  have hP : va_P D vwCl [(m0, .inr (12, [.ref gweight, .ref gpresent, .ref gspeeches, .int 0, .int 50, .int 0, .int 0, .ref gbuffer, .ref gstate, .ref gplace, .ref gmover, .ref gpart, .ref gamended, .ref gmany, .ref gclause, .ref gfirstMany, .ref gfirstClause, .int 0, .int 0, .int 0, .int (-1), .ref gresolution, .ref gmotion, .ref gaway, .ref gawayMany, .ref gawayOrder, .ref gtable, .ref gcommittee, .int 0, .int 0, .int 0, .int 0, .int 0, .int 0, .int 0, .int 0, .int (-5), .int 0, .int 0, .ref glone, .int 0, .ref gentry, .ref gchange, .int 0, .int (-1), .int 0, .int 0, .ref gyesBy, .ref gnoBy, .int 0, .int 0, .int 0, .int 0, .int 0, .int 0, .ref gdraft, .ref grow, .ref growMany, .ref growFloats, .ref gsaved, .int 0, .int 0, .int 0]))] s.heap := hP
  have hl := lv_entry ([.ref m0, .int p0, .int p1]) (n := 4) (Nat.le_of_ble_eq_true rfl)
  rw [lg_entry_eq]
  generalize (lg_sl ([.ref m0, .int p0, .int p1]) ++ List.replicate (4 - (lg_sl ([.ref m0, .int p0, .int p1])).length) Slot.unset).toArray = ls at hl ⊢
  have hl : lv_has ls 4 [(0, .ref m0), (1, .int p0), (2, .int p1)] := hl
  refine lv_iload_n hx hb dX12_entry_0 rfl (lv_at hl 1 rfl) ?_
  refine lv_iconst (v := (-1)) hx hb dX12_entry_1 (by decide) ?_
  refine lv_icmp_ne (tgt := 10) hx hb dX12_entry_2 (by decide) (fun c_1 => ?_) (fun c_1 => ?_)
  · refine lv_aload_n hx hb dX12_entry_10 rfl (lv_at hl 0 rfl) ?_
    refine va_get (D := D) (ci := 12) (v := .int 0) (C := RX12) (T := TX12) (N := 63) hx hb hts in_X12 hown hK hP 0 rfl rfl 43 (by decide) (hts _ q_1063) (fun _ h9 => h9) rfl dX12_entry_11 ?_
    refine lv_bipush (v := 120) hx hb dX12_entry_14 (by decide) ?_
    refine lv_icmp_ge (tgt := 26) hx hb dX12_entry_16 (by decide) (fun c9 => absurd c9 (by decide)) (fun _ => ?_)
    refine lv_aload_n hx hb dX12_entry_19 rfl (lv_at hl 0 rfl) ?_
    refine va_get (D := D) (ci := 12) (v := .int 0) (C := RX12) (T := TX12) (N := 63) hx hb hts in_X12 hown hK hP 0 rfl rfl 43 (by decide) (hts _ q_1063) (fun _ h9 => h9) rfl dX12_entry_20 ?_
    refine lv_goto (tgt := 28) hx hb dX12_entry_23 (by decide) ?_
    refine lv_istore_n (lv' := [(3, .int 0), (0, .ref m0), (1, .int p0), (2, .int p1)]) hx hb dX12_entry_28 rfl hl (by decide) rfl (fun ls hl => ?_)
    refine lv_iload_n hx hb dX12_entry_29 rfl (lv_at hl 2 rfl) ?_
    refine lv_iconst (v := 0) hx hb dX12_entry_30 (by decide) ?_
    refine lv_iload_n hx hb dX12_entry_31 rfl (lv_at hl 0 rfl) ?_
    refine lv_iconst (v := 1) hx hb dX12_entry_32 (by decide) ?_
    refine lv_isub hx hb dX12_entry_33 ?_
    refine lv_cst (v := (-1)) (by decide) ?_
    refine p_call (va_runS (As := [.int p0, .int 0, .int (-1)]) (rest := []) ⟨hx, hb, hml, hown, hts⟩ (c_X12_isBetween l D cI cQ cM cR p0 0 (-1)) (va_cwS 3 hts (gS q_1214 q_1215 q_76 q_1216) rfl rfl rfl (by decide +kernel) ⟨Nat.le_of_ble_eq_true rfl, Nat.le_of_ble_eq_true rfl⟩) ⟨PP_blind, PP_of hK (hP.sub [] rfl)⟩ rfl rfl hl.1 rfl (lv_room (Nat.le_of_ble_eq_true rfl)) dX12_entry_34 ⟨Nat.le_of_ble_eq_true rfl, Nat.le_of_ble_eq_true rfl⟩) ?_
    refine lv_cst (v := 0) (btw_none p0) ?_
    refine lv_if_eq (tgt := 62) hx hb dX12_entry_37 (by decide) (fun _ => ?_) (fun c9 => absurd (by decide) c9)
    refine lv_iconst (v := (-1)) hx hb dX12_entry_62 (by decide) ?_
    exact W.iret hx hb hr (fun t ht hW => ⟨by first | rfl | (simp only [sp_m1, c_1, ↓reduceIte, if_true, if_false, not_true_eq_false, not_false_eq_true]; done) | (simp [sp_m1, c_1]; done), ht⟩) (fun q hq => absurd hq List.not_mem_nil) dX12_entry_63
  · refine lv_aload_n hx hb dX12_entry_5 rfl (lv_at hl 0 rfl) ?_
    refine va_get (D := D) (ci := 12) (v := .int 0) (C := RX12) (T := TX12) (N := 63) hx hb hts in_X12 hown hK hP 0 rfl rfl 43 (by decide) (hts _ q_1063) (fun _ h9 => h9) rfl dX12_entry_6 ?_
    exact W.iret hx hb hr (fun t ht hW => ⟨by first | rfl | (simp only [sp_m1, c_1, ↓reduceIte, if_true, if_false, not_true_eq_false, not_false_eq_true]; done) | (simp [sp_m1, c_1]; done), ht⟩) (fun q hq => absurd hq List.not_mem_nil) dX12_entry_9
theorem dX12_vote_0 : decode cX12_vote 0 = .ok (.aload_n 0, 1) := by decide +kernel
theorem dX12_vote_1 : decode cX12_vote 1 = .ok (.getfield 292, 3) := by decide +kernel
theorem dX12_vote_4 : decode cX12_vote 4 = .ok (.ifCond .ne 6, 3) := by decide +kernel
theorem dX12_vote_7 : decode cX12_vote 7 = .ok (.bipush (-3), 2) := by decide +kernel
theorem dX12_vote_9 : decode cX12_vote 9 = .ok (.ireturn, 1) := by decide +kernel
set_option maxRecDepth 100000 in
theorem q_1069 : (.fieldLink RX12 292 "AssemblyChairModel" "votes" "I") ∈ lw_all := List.mem_filter.mpr ⟨List.mem_of_getElem? (i := 1069) (by decide +kernel), by decide +kernel⟩
set_option maxHeartbeats 4000000 in
set_option maxRecDepth 100000 in
theorem c_X12_vote (l : Launch) (D : va_G) (cI cQ cM cR : ClassId) (m0 : Nat) (gweight : Nat) (gpresent : Nat) (gspeeches : Nat) (gbuffer : Nat) (gstate : Nat) (gplace : Nat) (gmover : Nat) (gpart : Nat) (gamended : Nat) (gmany : Nat) (gclause : Nat) (gfirstMany : Nat) (gfirstClause : Nat) (gresolution : Nat) (gmotion : Nat) (gaway : Nat) (gawayMany : Nat) (gawayOrder : Nat) (gtable : Nat) (gcommittee : Nat) (glone : Nat) (gentry : Nat) (gchange : Nat) (gyesBy : Nat) (gnoBy : Nat) (gdraft : Nat) (grow : Nat) (growMany : Nat) (growFloats : Nat) (gsaved : Nat) (p0 : Int32) : Met l yX12_vote (ws_ yX12_vote cX12_vote 2 (some .int)) ({ frames := 0, cells := 0, slots := 0, locals := 0 }) (PP D cI cQ cM cR [.ref m0, .int p0] [(m0, .inr (12, [.ref gweight, .ref gpresent, .ref gspeeches, .int 0, .int 50, .int 0, .int 0, .ref gbuffer, .ref gstate, .ref gplace, .ref gmover, .ref gpart, .ref gamended, .ref gmany, .ref gclause, .ref gfirstMany, .ref gfirstClause, .int 0, .int 0, .int 0, .int (-1), .ref gresolution, .ref gmotion, .ref gaway, .ref gawayMany, .ref gawayOrder, .ref gtable, .ref gcommittee, .int 0, .int 0, .int 0, .int 0, .int 0, .int 0, .int 0, .int 0, .int (-5), .int 0, .int 0, .ref glone, .int 0, .ref gentry, .ref gchange, .int 0, .int (-1), .int 0, .int 0, .ref gyesBy, .ref gnoBy, .int 0, .int 0, .int 0, .int 0, .int 0, .int 0, .ref gdraft, .ref grow, .ref growMany, .ref growFloats, .ref gsaved, .int 0, .int 0, .int 0]))]) (QP (some (.int (-3)))) 0 0 (fun _ => False) := by
  refine Met.ofW (cc := cX12_vote) (maxL := 2) (ret := (some .int)) (by decide) rfl ?_
  intro p e s m args below meth c s₁ B hml hv
  obtain ⟨rfl, hP, hK⟩ := hv
  have hx := B.exec
  have hb := B.bytes
  have hr := B.returns
  have hts : ∀ w ∈ lw_all, w.before _ s = true := fun w h => atoms_spec (ws := (ws_ yX12_vote cX12_vote 2 (some .int))) B.pre w (List.mem_cons_of_mem _ h)
  have hown : s.vm.findClass RX12 = some m.cls := findClass_of_methodNamed B.named
  have hlocks := B.notSynchronized
  have hP : va_P D vwCl [(m0, .inr (12, [.ref gweight, .ref gpresent, .ref gspeeches, .int 0, .int 50, .int 0, .int 0, .ref gbuffer, .ref gstate, .ref gplace, .ref gmover, .ref gpart, .ref gamended, .ref gmany, .ref gclause, .ref gfirstMany, .ref gfirstClause, .int 0, .int 0, .int 0, .int (-1), .ref gresolution, .ref gmotion, .ref gaway, .ref gawayMany, .ref gawayOrder, .ref gtable, .ref gcommittee, .int 0, .int 0, .int 0, .int 0, .int 0, .int 0, .int 0, .int 0, .int (-5), .int 0, .int 0, .ref glone, .int 0, .ref gentry, .ref gchange, .int 0, .int (-1), .int 0, .int 0, .ref gyesBy, .ref gnoBy, .int 0, .int 0, .int 0, .int 0, .int 0, .int 0, .ref gdraft, .ref grow, .ref growMany, .ref growFloats, .ref gsaved, .int 0, .int 0, .int 0]))] s.heap := hP
  have hl := lv_entry ([.ref m0, .int p0]) (n := 2) (Nat.le_of_ble_eq_true rfl)
  rw [lg_entry_eq]
  generalize (lg_sl ([.ref m0, .int p0]) ++ List.replicate (2 - (lg_sl ([.ref m0, .int p0])).length) Slot.unset).toArray = ls at hl ⊢
  have hl : lv_has ls 2 [(0, .ref m0), (1, .int p0)] := hl
  refine lv_aload_n hx hb dX12_vote_0 rfl (lv_at hl 0 rfl) ?_
  refine va_get (D := D) (ci := 12) (v := .int 0) (C := RX12) (T := TX12) (N := 63) hx hb hts in_X12 hown hK hP 0 rfl rfl 49 (by decide) (hts _ q_1069) (fun _ h9 => h9) rfl dX12_vote_1 ?_
  refine lv_if_ne (tgt := 10) hx hb dX12_vote_4 (by decide) (fun c9 => absurd (by decide) c9) (fun _ => ?_)
  refine lv_bipush (v := (-3)) hx hb dX12_vote_7 (by decide) ?_
  exact W.iret hx hb hr (fun t ht hW => ⟨rfl, ht⟩) (fun q hq => absurd hq List.not_mem_nil) dX12_vote_9
theorem dX12_undo_0 : decode cX12_undo 0 = .ok (.aload_n 0, 1) := by decide +kernel
theorem dX12_undo_1 : decode cX12_undo 1 = .ok (.getfield 381, 3) := by decide +kernel
theorem dX12_undo_4 : decode cX12_undo 4 = .ok (.ifCond .ne 6, 3) := by decide +kernel
theorem dX12_undo_7 : decode cX12_undo 7 = .ok (.bipush (-3), 2) := by decide +kernel
theorem dX12_undo_9 : decode cX12_undo 9 = .ok (.ireturn, 1) := by decide +kernel
set_option maxRecDepth 100000 in
theorem q_1080 : (.fieldLink RX12 381 "AssemblyChairModel" "isSaved" "Z") ∈ lw_all := List.mem_filter.mpr ⟨List.mem_of_getElem? (i := 1080) (by decide +kernel), by decide +kernel⟩
set_option maxHeartbeats 4000000 in
set_option maxRecDepth 100000 in
theorem c_X12_undo (l : Launch) (D : va_G) (cI cQ cM cR : ClassId) (m0 : Nat) (gweight : Nat) (gpresent : Nat) (gspeeches : Nat) (gbuffer : Nat) (gstate : Nat) (gplace : Nat) (gmover : Nat) (gpart : Nat) (gamended : Nat) (gmany : Nat) (gclause : Nat) (gfirstMany : Nat) (gfirstClause : Nat) (gresolution : Nat) (gmotion : Nat) (gaway : Nat) (gawayMany : Nat) (gawayOrder : Nat) (gtable : Nat) (gcommittee : Nat) (glone : Nat) (gentry : Nat) (gchange : Nat) (gyesBy : Nat) (gnoBy : Nat) (gdraft : Nat) (grow : Nat) (growMany : Nat) (growFloats : Nat) (gsaved : Nat) : Met l yX12_undo (ws_ yX12_undo cX12_undo 1 (some .int)) ({ frames := 0, cells := 0, slots := 0, locals := 0 }) (PP D cI cQ cM cR [.ref m0] [(m0, .inr (12, [.ref gweight, .ref gpresent, .ref gspeeches, .int 0, .int 50, .int 0, .int 0, .ref gbuffer, .ref gstate, .ref gplace, .ref gmover, .ref gpart, .ref gamended, .ref gmany, .ref gclause, .ref gfirstMany, .ref gfirstClause, .int 0, .int 0, .int 0, .int (-1), .ref gresolution, .ref gmotion, .ref gaway, .ref gawayMany, .ref gawayOrder, .ref gtable, .ref gcommittee, .int 0, .int 0, .int 0, .int 0, .int 0, .int 0, .int 0, .int 0, .int (-5), .int 0, .int 0, .ref glone, .int 0, .ref gentry, .ref gchange, .int 0, .int (-1), .int 0, .int 0, .ref gyesBy, .ref gnoBy, .int 0, .int 0, .int 0, .int 0, .int 0, .int 0, .ref gdraft, .ref grow, .ref growMany, .ref growFloats, .ref gsaved, .int 0, .int 0, .int 0]))]) (QP (some (.int (-3)))) 0 0 (fun _ => False) := by
  refine Met.ofW (cc := cX12_undo) (maxL := 1) (ret := (some .int)) (by decide) rfl ?_
  intro p e s m args below meth c s₁ B hml hv
  obtain ⟨rfl, hP, hK⟩ := hv
  have hx := B.exec
  have hb := B.bytes
  have hr := B.returns
  have hts : ∀ w ∈ lw_all, w.before _ s = true := fun w h => atoms_spec (ws := (ws_ yX12_undo cX12_undo 1 (some .int))) B.pre w (List.mem_cons_of_mem _ h)
  have hown : s.vm.findClass RX12 = some m.cls := findClass_of_methodNamed B.named
  have hlocks := B.notSynchronized
  have hP : va_P D vwCl [(m0, .inr (12, [.ref gweight, .ref gpresent, .ref gspeeches, .int 0, .int 50, .int 0, .int 0, .ref gbuffer, .ref gstate, .ref gplace, .ref gmover, .ref gpart, .ref gamended, .ref gmany, .ref gclause, .ref gfirstMany, .ref gfirstClause, .int 0, .int 0, .int 0, .int (-1), .ref gresolution, .ref gmotion, .ref gaway, .ref gawayMany, .ref gawayOrder, .ref gtable, .ref gcommittee, .int 0, .int 0, .int 0, .int 0, .int 0, .int 0, .int 0, .int 0, .int (-5), .int 0, .int 0, .ref glone, .int 0, .ref gentry, .ref gchange, .int 0, .int (-1), .int 0, .int 0, .ref gyesBy, .ref gnoBy, .int 0, .int 0, .int 0, .int 0, .int 0, .int 0, .ref gdraft, .ref grow, .ref growMany, .ref growFloats, .ref gsaved, .int 0, .int 0, .int 0]))] s.heap := hP
  have hl := lv_entry ([.ref m0]) (n := 1) (Nat.le_of_ble_eq_true rfl)
  rw [lg_entry_eq]
  generalize (lg_sl ([.ref m0]) ++ List.replicate (1 - (lg_sl ([.ref m0])).length) Slot.unset).toArray = ls at hl ⊢
  have hl : lv_has ls 1 [(0, .ref m0)] := hl
  refine lv_aload_n hx hb dX12_undo_0 rfl (lv_at hl 0 rfl) ?_
  refine va_get (D := D) (ci := 12) (v := .int 0) (C := RX12) (T := TX12) (N := 63) hx hb hts in_X12 hown hK hP 0 rfl rfl 60 (by decide) (hts _ q_1080) (fun _ h9 => h9) rfl dX12_undo_1 ?_
  refine lv_if_ne (tgt := 10) hx hb dX12_undo_4 (by decide) (fun c9 => absurd (by decide) c9) (fun _ => ?_)
  refine lv_bipush (v := (-3)) hx hb dX12_undo_7 (by decide) ?_
  exact W.iret hx hb hr (fun t ht hW => ⟨rfl, ht⟩) (fun q hq => absurd hq List.not_mem_nil) dX12_undo_9
theorem dX12_report_0 : decode cX12_report 0 = .ok (.iload_n 1, 1) := by decide +kernel
theorem dX12_report_1 : decode cX12_report 1 = .ok (.iconst 0, 1) := by decide +kernel
theorem dX12_report_2 : decode cX12_report 2 = .ok (.iconst 3, 1) := by decide +kernel
theorem dX12_report_3 : decode cX12_report 3 = .ok (.invokestatic 130, 3) := by decide +kernel
theorem dX12_report_6 : decode cX12_report 6 = .ok (.ifCond .ne 5, 3) := by decide +kernel
theorem dX12_report_9 : decode cX12_report 9 = .ok (.iconst (-1), 1) := by decide +kernel
theorem dX12_report_10 : decode cX12_report 10 = .ok (.ireturn, 1) := by decide +kernel
theorem dX12_report_11 : decode cX12_report 11 = .ok (.aload_n 0, 1) := by decide +kernel
theorem dX12_report_12 : decode cX12_report 12 = .ok (.getfield 76, 3) := by decide +kernel
theorem dX12_report_15 : decode cX12_report 15 = .ok (.iload_n 1, 1) := by decide +kernel
theorem dX12_report_16 : decode cX12_report 16 = .ok (.iaload, 1) := by decide +kernel
theorem dX12_report_17 : decode cX12_report 17 = .ok (.istore_n 2, 1) := by decide +kernel
theorem dX12_report_18 : decode cX12_report 18 = .ok (.iload_n 2, 1) := by decide +kernel
theorem dX12_report_19 : decode cX12_report 19 = .ok (.ifCond .lt 18, 3) := by decide +kernel
theorem dX12_report_37 : decode cX12_report 37 = .ok (.bipush (-3), 2) := by decide +kernel
theorem dX12_report_39 : decode cX12_report 39 = .ok (.ireturn, 1) := by decide +kernel
set_option maxRecDepth 100000 in
theorem q_1047 : (.fieldLink RX12 76 "AssemblyChairModel" "committee" "[I") ∈ lw_all := List.mem_filter.mpr ⟨List.mem_of_getElem? (i := 1047) (by decide +kernel), by decide +kernel⟩
set_option maxHeartbeats 4000000 in
set_option maxRecDepth 100000 in
theorem c_X12_report (l : Launch) (D : va_G) (cI cQ cM cR : ClassId) (m0 : Nat) (gweight : Nat) (gpresent : Nat) (gspeeches : Nat) (gbuffer : Nat) (gstate : Nat) (gplace : Nat) (gmover : Nat) (gpart : Nat) (gamended : Nat) (gmany : Nat) (gclause : Nat) (gfirstMany : Nat) (gfirstClause : Nat) (gresolution : Nat) (gmotion : Nat) (gaway : Nat) (gawayMany : Nat) (gawayOrder : Nat) (gtable : Nat) (gcommittee : Nat) (glone : Nat) (gentry : Nat) (gchange : Nat) (gyesBy : Nat) (gnoBy : Nat) (gdraft : Nat) (grow : Nat) (growMany : Nat) (growFloats : Nat) (gsaved : Nat) (p0 : Int32) : Met l yX12_report (ws_ yX12_report cX12_report 3 (some .int)) ({ frames := 1, cells := 0, slots := 0, locals := 22 }) (PP D cI cQ cM cR [.ref m0, .int p0] [(m0, .inr (12, [.ref gweight, .ref gpresent, .ref gspeeches, .int 0, .int 50, .int 0, .int 0, .ref gbuffer, .ref gstate, .ref gplace, .ref gmover, .ref gpart, .ref gamended, .ref gmany, .ref gclause, .ref gfirstMany, .ref gfirstClause, .int 0, .int 0, .int 0, .int (-1), .ref gresolution, .ref gmotion, .ref gaway, .ref gawayMany, .ref gawayOrder, .ref gtable, .ref gcommittee, .int 0, .int 0, .int 0, .int 0, .int 0, .int 0, .int 0, .int 0, .int (-5), .int 0, .int 0, .ref glone, .int 0, .ref gentry, .ref gchange, .int 0, .int (-1), .int 0, .int 0, .ref gyesBy, .ref gnoBy, .int 0, .int 0, .int 0, .int 0, .int 0, .int 0, .ref gdraft, .ref grow, .ref growMany, .ref growFloats, .ref gsaved, .int 0, .int 0, .int 0])), (gcommittee, .inl (cI, 4, .inl (upd (upd (upd (upd (fun _ => 0) 0 (-1)) 1 (-1)) 2 (-1)) 3 (-1))))]) (QP (some (.int (sp_report p0)))) 0 0 (fun _ => False) := by
  refine Met.ofW (cc := cX12_report) (maxL := 3) (ret := (some .int)) (by decide) rfl ?_
  intro p e s m args below meth c s₁ B hml hv
  obtain ⟨rfl, hP, hK⟩ := hv
  have hx := B.exec
  have hb := B.bytes
  have hr := B.returns
  have hts : ∀ w ∈ lw_all, w.before _ s = true := fun w h => atoms_spec (ws := (ws_ yX12_report cX12_report 3 (some .int))) B.pre w (List.mem_cons_of_mem _ h)
  have hown : s.vm.findClass RX12 = some m.cls := findClass_of_methodNamed B.named
  have hlocks := B.notSynchronized
  have hP : va_P D vwCl [(m0, .inr (12, [.ref gweight, .ref gpresent, .ref gspeeches, .int 0, .int 50, .int 0, .int 0, .ref gbuffer, .ref gstate, .ref gplace, .ref gmover, .ref gpart, .ref gamended, .ref gmany, .ref gclause, .ref gfirstMany, .ref gfirstClause, .int 0, .int 0, .int 0, .int (-1), .ref gresolution, .ref gmotion, .ref gaway, .ref gawayMany, .ref gawayOrder, .ref gtable, .ref gcommittee, .int 0, .int 0, .int 0, .int 0, .int 0, .int 0, .int 0, .int 0, .int (-5), .int 0, .int 0, .ref glone, .int 0, .ref gentry, .ref gchange, .int 0, .int (-1), .int 0, .int 0, .ref gyesBy, .ref gnoBy, .int 0, .int 0, .int 0, .int 0, .int 0, .int 0, .ref gdraft, .ref grow, .ref growMany, .ref growFloats, .ref gsaved, .int 0, .int 0, .int 0])), (gcommittee, .inl (cI, 4, .inl (upd (upd (upd (upd (fun _ => 0) 0 (-1)) 1 (-1)) 2 (-1)) 3 (-1))))] s.heap := hP
  have hl := lv_entry ([.ref m0, .int p0]) (n := 3) (Nat.le_of_ble_eq_true rfl)
  rw [lg_entry_eq]
  generalize (lg_sl ([.ref m0, .int p0]) ++ List.replicate (3 - (lg_sl ([.ref m0, .int p0])).length) Slot.unset).toArray = ls at hl ⊢
  have hl : lv_has ls 3 [(0, .ref m0), (1, .int p0)] := hl
  rcases row_split p0 with h | h | rfl | rfl | rfl | rfl
  · skip
    refine lv_iload_n hx hb dX12_report_0 rfl (lv_at hl 1 rfl) ?_
    refine lv_iconst (v := 0) hx hb dX12_report_1 (by decide) ?_
    refine lv_iconst (v := 3) hx hb dX12_report_2 (by decide) ?_
    refine p_call (va_runS (As := [.int p0, .int 0, .int 3]) (rest := []) ⟨hx, hb, hml, hown, hts⟩ (c_X12_isBetween l D cI cQ cM cR p0 0 3) (va_cwS 3 hts (gS q_1214 q_1215 q_76 q_1216) rfl rfl rfl (by decide +kernel) ⟨Nat.le_of_ble_eq_true rfl, Nat.le_of_ble_eq_true rfl⟩) ⟨PP_blind, PP_of hK (hP.sub [] rfl)⟩ rfl rfl hl.1 rfl (lv_room (Nat.le_of_ble_eq_true rfl)) dX12_report_3 ⟨Nat.le_of_ble_eq_true rfl, Nat.le_of_ble_eq_true rfl⟩) ?_
    refine lv_cst (v := 0) (btw_lt 3 h) ?_
    refine lv_if_ne (tgt := 11) hx hb dX12_report_6 (by decide) (fun c9 => absurd (by decide) c9) (fun _ => ?_)
    refine lv_iconst (v := (-1)) hx hb dX12_report_9 (by decide) ?_
    exact W.iret hx hb hr (fun t ht hW => ⟨by rw [sp_report, if_pos h], ht⟩) (fun q hq => absurd hq List.not_mem_nil) dX12_report_10
  · skip
    refine lv_iload_n hx hb dX12_report_0 rfl (lv_at hl 1 rfl) ?_
    refine lv_iconst (v := 0) hx hb dX12_report_1 (by decide) ?_
    refine lv_iconst (v := 3) hx hb dX12_report_2 (by decide) ?_
    refine p_call (va_runS (As := [.int p0, .int 0, .int 3]) (rest := []) ⟨hx, hb, hml, hown, hts⟩ (c_X12_isBetween l D cI cQ cM cR p0 0 3) (va_cwS 3 hts (gS q_1214 q_1215 q_76 q_1216) rfl rfl rfl (by decide +kernel) ⟨Nat.le_of_ble_eq_true rfl, Nat.le_of_ble_eq_true rfl⟩) ⟨PP_blind, PP_of hK (hP.sub [] rfl)⟩ rfl rfl hl.1 rfl (lv_room (Nat.le_of_ble_eq_true rfl)) dX12_report_3 ⟨Nat.le_of_ble_eq_true rfl, Nat.le_of_ble_eq_true rfl⟩) ?_
    refine lv_cst (v := 0) (btw_gt 0 (gt3 h)) ?_
    refine lv_if_ne (tgt := 11) hx hb dX12_report_6 (by decide) (fun c9 => absurd (by decide) c9) (fun _ => ?_)
    refine lv_iconst (v := (-1)) hx hb dX12_report_9 (by decide) ?_
    exact W.iret hx hb hr (fun t ht hW => ⟨by rw [sp_report_ge h], ht⟩) (fun q hq => absurd hq List.not_mem_nil) dX12_report_10
  · skip
    refine lv_iload_n hx hb dX12_report_0 rfl (lv_at hl 1 rfl) ?_
    refine lv_iconst (v := 0) hx hb dX12_report_1 (by decide) ?_
    refine lv_iconst (v := 3) hx hb dX12_report_2 (by decide) ?_
    refine p_call (va_runS (As := [.int 0, .int 0, .int 3]) (rest := []) ⟨hx, hb, hml, hown, hts⟩ (c_X12_isBetween l D cI cQ cM cR 0 0 3) (va_cwS 3 hts (gS q_1214 q_1215 q_76 q_1216) rfl rfl rfl (by decide +kernel) ⟨Nat.le_of_ble_eq_true rfl, Nat.le_of_ble_eq_true rfl⟩) ⟨PP_blind, PP_of hK (hP.sub [] rfl)⟩ rfl rfl hl.1 rfl (lv_room (Nat.le_of_ble_eq_true rfl)) dX12_report_3 ⟨Nat.le_of_ble_eq_true rfl, Nat.le_of_ble_eq_true rfl⟩) ?_
    refine lv_cst (v := 1) (by decide) ?_
    refine lv_if_ne (tgt := 11) hx hb dX12_report_6 (by decide) (fun _ => ?_) (fun c9 => absurd c9 (by decide))
    refine lv_aload_n hx hb dX12_report_11 rfl (lv_at hl 0 rfl) ?_
    refine va_get (D := D) (ci := 12) (v := .ref gcommittee) (C := RX12) (T := TX12) (N := 63) hx hb hts in_X12 hown hK hP 0 rfl rfl 27 (by decide) (hts _ q_1047) (fun _ h9 => h9) rfl dX12_report_12 ?_
    refine lv_iload_n hx hb dX12_report_15 rfl (lv_at hl 1 rfl) ?_
    refine va_iald hx hb hK hP 1 0 rfl rfl (i := 0) (by unfold vp_in; decide) dX12_report_16 ?_
    refine lv_cst (v := (-1)) (by first | rfl | decide) ?_
    refine lv_istore_n (lv' := [(2, .int (-1)), (0, .ref m0), (1, .int 0)]) hx hb dX12_report_17 rfl hl (by decide) rfl (fun ls hl => ?_)
    refine lv_iload_n hx hb dX12_report_18 rfl (lv_at hl 0 rfl) ?_
    refine lv_if_lt (tgt := 37) hx hb dX12_report_19 (by decide) (fun _ => ?_) (fun c9 => absurd (by decide) c9)
    refine lv_bipush (v := (-3)) hx hb dX12_report_37 (by decide) ?_
    exact W.iret hx hb hr (fun t ht hW => ⟨by first | rfl | decide, ht⟩) (fun q hq => absurd hq List.not_mem_nil) dX12_report_39
  · skip
    refine lv_iload_n hx hb dX12_report_0 rfl (lv_at hl 1 rfl) ?_
    refine lv_iconst (v := 0) hx hb dX12_report_1 (by decide) ?_
    refine lv_iconst (v := 3) hx hb dX12_report_2 (by decide) ?_
    refine p_call (va_runS (As := [.int 1, .int 0, .int 3]) (rest := []) ⟨hx, hb, hml, hown, hts⟩ (c_X12_isBetween l D cI cQ cM cR 1 0 3) (va_cwS 3 hts (gS q_1214 q_1215 q_76 q_1216) rfl rfl rfl (by decide +kernel) ⟨Nat.le_of_ble_eq_true rfl, Nat.le_of_ble_eq_true rfl⟩) ⟨PP_blind, PP_of hK (hP.sub [] rfl)⟩ rfl rfl hl.1 rfl (lv_room (Nat.le_of_ble_eq_true rfl)) dX12_report_3 ⟨Nat.le_of_ble_eq_true rfl, Nat.le_of_ble_eq_true rfl⟩) ?_
    refine lv_cst (v := 1) (by decide) ?_
    refine lv_if_ne (tgt := 11) hx hb dX12_report_6 (by decide) (fun _ => ?_) (fun c9 => absurd c9 (by decide))
    refine lv_aload_n hx hb dX12_report_11 rfl (lv_at hl 0 rfl) ?_
    refine va_get (D := D) (ci := 12) (v := .ref gcommittee) (C := RX12) (T := TX12) (N := 63) hx hb hts in_X12 hown hK hP 0 rfl rfl 27 (by decide) (hts _ q_1047) (fun _ h9 => h9) rfl dX12_report_12 ?_
    refine lv_iload_n hx hb dX12_report_15 rfl (lv_at hl 1 rfl) ?_
    refine va_iald hx hb hK hP 1 0 rfl rfl (i := 1) (by unfold vp_in; decide) dX12_report_16 ?_
    refine lv_cst (v := (-1)) (by first | rfl | decide) ?_
    refine lv_istore_n (lv' := [(2, .int (-1)), (0, .ref m0), (1, .int 1)]) hx hb dX12_report_17 rfl hl (by decide) rfl (fun ls hl => ?_)
    refine lv_iload_n hx hb dX12_report_18 rfl (lv_at hl 0 rfl) ?_
    refine lv_if_lt (tgt := 37) hx hb dX12_report_19 (by decide) (fun _ => ?_) (fun c9 => absurd (by decide) c9)
    refine lv_bipush (v := (-3)) hx hb dX12_report_37 (by decide) ?_
    exact W.iret hx hb hr (fun t ht hW => ⟨by first | rfl | decide, ht⟩) (fun q hq => absurd hq List.not_mem_nil) dX12_report_39
  · skip
    refine lv_iload_n hx hb dX12_report_0 rfl (lv_at hl 1 rfl) ?_
    refine lv_iconst (v := 0) hx hb dX12_report_1 (by decide) ?_
    refine lv_iconst (v := 3) hx hb dX12_report_2 (by decide) ?_
    refine p_call (va_runS (As := [.int 2, .int 0, .int 3]) (rest := []) ⟨hx, hb, hml, hown, hts⟩ (c_X12_isBetween l D cI cQ cM cR 2 0 3) (va_cwS 3 hts (gS q_1214 q_1215 q_76 q_1216) rfl rfl rfl (by decide +kernel) ⟨Nat.le_of_ble_eq_true rfl, Nat.le_of_ble_eq_true rfl⟩) ⟨PP_blind, PP_of hK (hP.sub [] rfl)⟩ rfl rfl hl.1 rfl (lv_room (Nat.le_of_ble_eq_true rfl)) dX12_report_3 ⟨Nat.le_of_ble_eq_true rfl, Nat.le_of_ble_eq_true rfl⟩) ?_
    refine lv_cst (v := 1) (by decide) ?_
    refine lv_if_ne (tgt := 11) hx hb dX12_report_6 (by decide) (fun _ => ?_) (fun c9 => absurd c9 (by decide))
    refine lv_aload_n hx hb dX12_report_11 rfl (lv_at hl 0 rfl) ?_
    refine va_get (D := D) (ci := 12) (v := .ref gcommittee) (C := RX12) (T := TX12) (N := 63) hx hb hts in_X12 hown hK hP 0 rfl rfl 27 (by decide) (hts _ q_1047) (fun _ h9 => h9) rfl dX12_report_12 ?_
    refine lv_iload_n hx hb dX12_report_15 rfl (lv_at hl 1 rfl) ?_
    refine va_iald hx hb hK hP 1 0 rfl rfl (i := 2) (by unfold vp_in; decide) dX12_report_16 ?_
    refine lv_cst (v := (-1)) (by first | rfl | decide) ?_
    refine lv_istore_n (lv' := [(2, .int (-1)), (0, .ref m0), (1, .int 2)]) hx hb dX12_report_17 rfl hl (by decide) rfl (fun ls hl => ?_)
    refine lv_iload_n hx hb dX12_report_18 rfl (lv_at hl 0 rfl) ?_
    refine lv_if_lt (tgt := 37) hx hb dX12_report_19 (by decide) (fun _ => ?_) (fun c9 => absurd (by decide) c9)
    refine lv_bipush (v := (-3)) hx hb dX12_report_37 (by decide) ?_
    exact W.iret hx hb hr (fun t ht hW => ⟨by first | rfl | decide, ht⟩) (fun q hq => absurd hq List.not_mem_nil) dX12_report_39
  · skip
    refine lv_iload_n hx hb dX12_report_0 rfl (lv_at hl 1 rfl) ?_
    refine lv_iconst (v := 0) hx hb dX12_report_1 (by decide) ?_
    refine lv_iconst (v := 3) hx hb dX12_report_2 (by decide) ?_
    refine p_call (va_runS (As := [.int 3, .int 0, .int 3]) (rest := []) ⟨hx, hb, hml, hown, hts⟩ (c_X12_isBetween l D cI cQ cM cR 3 0 3) (va_cwS 3 hts (gS q_1214 q_1215 q_76 q_1216) rfl rfl rfl (by decide +kernel) ⟨Nat.le_of_ble_eq_true rfl, Nat.le_of_ble_eq_true rfl⟩) ⟨PP_blind, PP_of hK (hP.sub [] rfl)⟩ rfl rfl hl.1 rfl (lv_room (Nat.le_of_ble_eq_true rfl)) dX12_report_3 ⟨Nat.le_of_ble_eq_true rfl, Nat.le_of_ble_eq_true rfl⟩) ?_
    refine lv_cst (v := 1) (by decide) ?_
    refine lv_if_ne (tgt := 11) hx hb dX12_report_6 (by decide) (fun _ => ?_) (fun c9 => absurd c9 (by decide))
    refine lv_aload_n hx hb dX12_report_11 rfl (lv_at hl 0 rfl) ?_
    refine va_get (D := D) (ci := 12) (v := .ref gcommittee) (C := RX12) (T := TX12) (N := 63) hx hb hts in_X12 hown hK hP 0 rfl rfl 27 (by decide) (hts _ q_1047) (fun _ h9 => h9) rfl dX12_report_12 ?_
    refine lv_iload_n hx hb dX12_report_15 rfl (lv_at hl 1 rfl) ?_
    refine va_iald hx hb hK hP 1 0 rfl rfl (i := 3) (by unfold vp_in; decide) dX12_report_16 ?_
    refine lv_cst (v := (-1)) (by first | rfl | decide) ?_
    refine lv_istore_n (lv' := [(2, .int (-1)), (0, .ref m0), (1, .int 3)]) hx hb dX12_report_17 rfl hl (by decide) rfl (fun ls hl => ?_)
    refine lv_iload_n hx hb dX12_report_18 rfl (lv_at hl 0 rfl) ?_
    refine lv_if_lt (tgt := 37) hx hb dX12_report_19 (by decide) (fun _ => ?_) (fun c9 => absurd (by decide) c9)
    refine lv_bipush (v := (-3)) hx hb dX12_report_37 (by decide) ?_
    exact W.iret hx hb hr (fun t ht hW => ⟨by first | rfl | decide, ht⟩) (fun q hq => absurd hq List.not_mem_nil) dX12_report_39
theorem dX12_countOfMeeting_0 : decode cX12_countOfMeeting 0 = .ok (.iload_n 1, 1) := by decide +kernel
theorem dX12_countOfMeeting_1 : decode cX12_countOfMeeting 1 = .ok (.tableswitch 108 0 8 #[51, 56, 63, 68, 73, 80, 93, 98, 103], 51) := by decide +kernel
theorem dX12_countOfMeeting_52 : decode cX12_countOfMeeting 52 = .ok (.aload_n 0, 1) := by decide +kernel
theorem dX12_countOfMeeting_53 : decode cX12_countOfMeeting 53 = .ok (.getfield 177, 3) := by decide +kernel
theorem dX12_countOfMeeting_56 : decode cX12_countOfMeeting 56 = .ok (.ireturn, 1) := by decide +kernel
theorem dX12_countOfMeeting_57 : decode cX12_countOfMeeting 57 = .ok (.iconst 1, 1) := by decide +kernel
theorem dX12_countOfMeeting_58 : decode cX12_countOfMeeting 58 = .ok (.aload_n 0, 1) := by decide +kernel
theorem dX12_countOfMeeting_59 : decode cX12_countOfMeeting 59 = .ok (.getfield 198, 3) := by decide +kernel
theorem dX12_countOfMeeting_62 : decode cX12_countOfMeeting 62 = .ok (.isub, 1) := by decide +kernel
theorem dX12_countOfMeeting_63 : decode cX12_countOfMeeting 63 = .ok (.ireturn, 1) := by decide +kernel
theorem dX12_countOfMeeting_64 : decode cX12_countOfMeeting 64 = .ok (.aload_n 0, 1) := by decide +kernel
theorem dX12_countOfMeeting_65 : decode cX12_countOfMeeting 65 = .ok (.getfield 115, 3) := by decide +kernel
theorem dX12_countOfMeeting_68 : decode cX12_countOfMeeting 68 = .ok (.ireturn, 1) := by decide +kernel
theorem dX12_countOfMeeting_69 : decode cX12_countOfMeeting 69 = .ok (.aload_n 0, 1) := by decide +kernel
theorem dX12_countOfMeeting_70 : decode cX12_countOfMeeting 70 = .ok (.invokevirtual 126, 3) := by decide +kernel
theorem dX12_countOfMeeting_73 : decode cX12_countOfMeeting 73 = .ok (.ireturn, 1) := by decide +kernel
theorem dX12_countOfMeeting_74 : decode cX12_countOfMeeting 74 = .ok (.aload_n 0, 1) := by decide +kernel
theorem dX12_countOfMeeting_75 : decode cX12_countOfMeeting 75 = .ok (.iconst (-1), 1) := by decide +kernel
theorem dX12_countOfMeeting_76 : decode cX12_countOfMeeting 76 = .ok (.iconst 0, 1) := by decide +kernel
theorem dX12_countOfMeeting_77 : decode cX12_countOfMeeting 77 = .ok (.invokevirtual 122, 3) := by decide +kernel
theorem dX12_countOfMeeting_80 : decode cX12_countOfMeeting 80 = .ok (.ireturn, 1) := by decide +kernel
theorem dX12_countOfMeeting_81 : decode cX12_countOfMeeting 81 = .ok (.aload_n 0, 1) := by decide +kernel
theorem dX12_countOfMeeting_82 : decode cX12_countOfMeeting 82 = .ok (.invokevirtual 201, 3) := by decide +kernel
theorem dX12_countOfMeeting_85 : decode cX12_countOfMeeting 85 = .ok (.ifCond .eq 7, 3) := by decide +kernel
theorem dX12_countOfMeeting_92 : decode cX12_countOfMeeting 92 = .ok (.iconst 0, 1) := by decide +kernel
theorem dX12_countOfMeeting_93 : decode cX12_countOfMeeting 93 = .ok (.ireturn, 1) := by decide +kernel
theorem dX12_countOfMeeting_94 : decode cX12_countOfMeeting 94 = .ok (.aload_n 0, 1) := by decide +kernel
theorem dX12_countOfMeeting_95 : decode cX12_countOfMeeting 95 = .ok (.getfield 138, 3) := by decide +kernel
theorem dX12_countOfMeeting_98 : decode cX12_countOfMeeting 98 = .ok (.ireturn, 1) := by decide +kernel
theorem dX12_countOfMeeting_99 : decode cX12_countOfMeeting 99 = .ok (.aload_n 0, 1) := by decide +kernel
theorem dX12_countOfMeeting_100 : decode cX12_countOfMeeting 100 = .ok (.getfield 243, 3) := by decide +kernel
theorem dX12_countOfMeeting_103 : decode cX12_countOfMeeting 103 = .ok (.ireturn, 1) := by decide +kernel
theorem dX12_countOfMeeting_104 : decode cX12_countOfMeeting 104 = .ok (.aload_n 0, 1) := by decide +kernel
theorem dX12_countOfMeeting_105 : decode cX12_countOfMeeting 105 = .ok (.getfield 195, 3) := by decide +kernel
theorem dX12_countOfMeeting_108 : decode cX12_countOfMeeting 108 = .ok (.ireturn, 1) := by decide +kernel
theorem dX12_countOfMeeting_109 : decode cX12_countOfMeeting 109 = .ok (.iload_n 1, 1) := by decide +kernel
theorem dX12_countOfMeeting_110 : decode cX12_countOfMeeting 110 = .ok (.bipush 9, 2) := by decide +kernel
theorem dX12_countOfMeeting_112 : decode cX12_countOfMeeting 112 = .ok (.if_icmp .ne 16, 3) := by decide +kernel
theorem dX12_countOfMeeting_115 : decode cX12_countOfMeeting 115 = .ok (.aload_n 0, 1) := by decide +kernel
theorem dX12_countOfMeeting_116 : decode cX12_countOfMeeting 116 = .ok (.iconst 2, 1) := by decide +kernel
theorem dX12_countOfMeeting_117 : decode cX12_countOfMeeting 117 = .ok (.invokevirtual 347, 3) := by decide +kernel
theorem dX12_countOfMeeting_120 : decode cX12_countOfMeeting 120 = .ok (.aload_n 0, 1) := by decide +kernel
theorem dX12_countOfMeeting_121 : decode cX12_countOfMeeting 121 = .ok (.getfield 164, 3) := by decide +kernel
theorem dX12_countOfMeeting_124 : decode cX12_countOfMeeting 124 = .ok (.iadd, 1) := by decide +kernel
theorem dX12_countOfMeeting_125 : decode cX12_countOfMeeting 125 = .ok (.goto 8, 3) := by decide +kernel
theorem dX12_countOfMeeting_128 : decode cX12_countOfMeeting 128 = .ok (.aload_n 0, 1) := by decide +kernel
theorem dX12_countOfMeeting_129 : decode cX12_countOfMeeting 129 = .ok (.iconst 1, 1) := by decide +kernel
theorem dX12_countOfMeeting_130 : decode cX12_countOfMeeting 130 = .ok (.invokevirtual 347, 3) := by decide +kernel
theorem dX12_countOfMeeting_133 : decode cX12_countOfMeeting 133 = .ok (.ireturn, 1) := by decide +kernel
set_option maxRecDepth 100000 in
theorem q_1251 : (.code yX12_hasQuorum cX12_hasQuorum 1 (some .boolean)) ∈ lw_all := List.mem_filter.mpr ⟨List.mem_of_getElem? (i := 1251) (rfl), by decide +kernel⟩
set_option maxRecDepth 100000 in
theorem q_1255 : (.code yX12_presentWeight cX12_presentWeight 1 (some .int)) ∈ lw_all := List.mem_filter.mpr ⟨List.mem_of_getElem? (i := 1255) (rfl), by decide +kernel⟩
set_option maxRecDepth 100000 in
theorem q_1474 : (.code yX12_questionsIn cX12_questionsIn 4 (some .int)) ∈ lw_all := List.mem_filter.mpr ⟨List.mem_of_getElem? (i := 1474) (rfl), by decide +kernel⟩
set_option maxRecDepth 100000 in
theorem q_1025 : (.fieldLink RX12 177 "AssemblyChairModel" "minute" "I") ∈ lw_all := List.mem_filter.mpr ⟨List.mem_of_getElem? (i := 1025) (by decide +kernel), by decide +kernel⟩
set_option maxRecDepth 100000 in
theorem q_1049 : (.fieldLink RX12 195 "AssemblyChairModel" "laid" "I") ∈ lw_all := List.mem_filter.mpr ⟨List.mem_of_getElem? (i := 1049) (by decide +kernel), by decide +kernel⟩
set_option maxRecDepth 100000 in
theorem q_1250 : (.instanceMethod yX12_hasQuorum) ∈ lw_all := List.mem_filter.mpr ⟨List.mem_of_getElem? (i := 1250) (by decide +kernel), by decide +kernel⟩
set_option maxRecDepth 100000 in
theorem q_1254 : (.instanceMethod yX12_presentWeight) ∈ lw_all := List.mem_filter.mpr ⟨List.mem_of_getElem? (i := 1254) (by decide +kernel), by decide +kernel⟩
set_option maxRecDepth 100000 in
theorem q_1473 : (.instanceMethod yX12_questionsIn) ∈ lw_all := List.mem_filter.mpr ⟨List.mem_of_getElem? (i := 1473) (by decide +kernel), by decide +kernel⟩
set_option maxRecDepth 100000 in
theorem q_1252 : (.methodLink RX12 126 yX12_presentWeight) ∈ lw_all := List.mem_filter.mpr ⟨List.mem_of_getElem? (i := 1252) (by decide +kernel), by decide +kernel⟩
set_option maxRecDepth 100000 in
theorem q_1248 : (.methodLink RX12 201 yX12_hasQuorum) ∈ lw_all := List.mem_filter.mpr ⟨List.mem_of_getElem? (i := 1248) (by decide +kernel), by decide +kernel⟩
set_option maxRecDepth 100000 in
theorem q_1471 : (.methodLink RX12 347 yX12_questionsIn) ∈ lw_all := List.mem_filter.mpr ⟨List.mem_of_getElem? (i := 1471) (by decide +kernel), by decide +kernel⟩
set_option maxRecDepth 100000 in
theorem q_24 : (.selects RX12 yX12_hasQuorum yX12_hasQuorum) ∈ lw_all := List.mem_filter.mpr ⟨List.mem_of_getElem? (i := 24) (by decide +kernel), by decide +kernel⟩
set_option maxRecDepth 100000 in
theorem q_25 : (.selects RX12 yX12_presentWeight yX12_presentWeight) ∈ lw_all := List.mem_filter.mpr ⟨List.mem_of_getElem? (i := 25) (by decide +kernel), by decide +kernel⟩
set_option maxRecDepth 100000 in
theorem q_57 : (.selects RX12 yX12_questionsIn yX12_questionsIn) ∈ lw_all := List.mem_filter.mpr ⟨List.mem_of_getElem? (i := 57) (by decide +kernel), by decide +kernel⟩
set_option maxHeartbeats 4000000 in
set_option maxRecDepth 100000 in
theorem c_X12_countOfMeeting (l : Launch) (D : va_G) (cI cQ cM cR : ClassId) (m0 : Nat) (gweight : Nat) (gpresent : Nat) (gspeeches : Nat) (gbuffer : Nat) (gstate : Nat) (gplace : Nat) (gmover : Nat) (gpart : Nat) (gamended : Nat) (gmany : Nat) (gclause : Nat) (gfirstMany : Nat) (gfirstClause : Nat) (gresolution : Nat) (gmotion : Nat) (gaway : Nat) (gawayMany : Nat) (gawayOrder : Nat) (gtable : Nat) (gcommittee : Nat) (glone : Nat) (gentry : Nat) (gchange : Nat) (gyesBy : Nat) (gnoBy : Nat) (gdraft : Nat) (grow : Nat) (growMany : Nat) (growFloats : Nat) (gsaved : Nat) (p0 : Int32) : Met l yX12_countOfMeeting (ws_ yX12_countOfMeeting cX12_countOfMeeting 2 (some .int)) ({ frames := 2, cells := 0, slots := 0, locals := 44 }) (PP D cI cQ cM cR [.ref m0, .int p0] [(m0, .inr (12, [.ref gweight, .ref gpresent, .ref gspeeches, .int 0, .int 50, .int 0, .int 0, .ref gbuffer, .ref gstate, .ref gplace, .ref gmover, .ref gpart, .ref gamended, .ref gmany, .ref gclause, .ref gfirstMany, .ref gfirstClause, .int 0, .int 0, .int 0, .int (-1), .ref gresolution, .ref gmotion, .ref gaway, .ref gawayMany, .ref gawayOrder, .ref gtable, .ref gcommittee, .int 0, .int 0, .int 0, .int 0, .int 0, .int 0, .int 0, .int 0, .int (-5), .int 0, .int 0, .ref glone, .int 0, .ref gentry, .ref gchange, .int 0, .int (-1), .int 0, .int 0, .ref gyesBy, .ref gnoBy, .int 0, .int 0, .int 0, .int 0, .int 0, .int 0, .ref gdraft, .ref grow, .ref growMany, .ref growFloats, .ref gsaved, .int 0, .int 0, .int 0]))]) (QP (some (.int (com p0)))) 0 0 (fun _ => False) := by
  refine Met.ofW (cc := cX12_countOfMeeting) (maxL := 2) (ret := (some .int)) (by decide) rfl ?_
  intro p e s m args below meth c s₁ B hml hv
  obtain ⟨rfl, hP, hK⟩ := hv
  have hx := B.exec
  have hb := B.bytes
  have hr := B.returns
  have hts : ∀ w ∈ lw_all, w.before _ s = true := fun w h => atoms_spec (ws := (ws_ yX12_countOfMeeting cX12_countOfMeeting 2 (some .int))) B.pre w (List.mem_cons_of_mem _ h)
  have hown : s.vm.findClass RX12 = some m.cls := findClass_of_methodNamed B.named
  have hlocks := B.notSynchronized
  have hP : va_P D vwCl [(m0, .inr (12, [.ref gweight, .ref gpresent, .ref gspeeches, .int 0, .int 50, .int 0, .int 0, .ref gbuffer, .ref gstate, .ref gplace, .ref gmover, .ref gpart, .ref gamended, .ref gmany, .ref gclause, .ref gfirstMany, .ref gfirstClause, .int 0, .int 0, .int 0, .int (-1), .ref gresolution, .ref gmotion, .ref gaway, .ref gawayMany, .ref gawayOrder, .ref gtable, .ref gcommittee, .int 0, .int 0, .int 0, .int 0, .int 0, .int 0, .int 0, .int 0, .int (-5), .int 0, .int 0, .ref glone, .int 0, .ref gentry, .ref gchange, .int 0, .int (-1), .int 0, .int 0, .ref gyesBy, .ref gnoBy, .int 0, .int 0, .int 0, .int 0, .int 0, .int 0, .ref gdraft, .ref grow, .ref growMany, .ref growFloats, .ref gsaved, .int 0, .int 0, .int 0]))] s.heap := hP
  have hl := lv_entry ([.ref m0, .int p0]) (n := 2) (Nat.le_of_ble_eq_true rfl)
  rw [lg_entry_eq]
  generalize (lg_sl ([.ref m0, .int p0]) ++ List.replicate (2 - (lg_sl ([.ref m0, .int p0])).length) Slot.unset).toArray = ls at hl ⊢
  have hl : lv_has ls 2 [(0, .ref m0), (1, .int p0)] := hl
  rcases split9 p0 with h | rfl | rfl | rfl | rfl | rfl | rfl | rfl | rfl | rfl
  · skip
    refine lv_iload_n hx hb dX12_countOfMeeting_0 rfl (lv_at hl 1 rfl) ?_
    refine lv_tableOut (tgt := 109) hx hb dX12_countOfMeeting_1 (h.1) (by decide) ?_
    refine lv_iload_n hx hb dX12_countOfMeeting_109 rfl (lv_at hl 1 rfl) ?_
    refine lv_bipush (v := 9) hx hb dX12_countOfMeeting_110 (by decide) ?_
    refine lv_icmp_ne (tgt := 128) hx hb dX12_countOfMeeting_112 (by decide) (fun c_1 => ?_) (fun c_1 => ?_)
    · refine lv_aload_n hx hb dX12_countOfMeeting_128 rfl (lv_at hl 0 rfl) ?_
      refine lv_iconst (v := 1) hx hb dX12_countOfMeeting_129 (by decide) ?_
      refine p_call (va_runV (As := [.int 1]) (rest := []) ⟨hx, hb, hml, hown, hts⟩ (c_X12_questionsIn l D cI cQ cM cR m0 gweight gpresent gspeeches gbuffer gstate gplace gmover gpart gamended gmany gclause gfirstMany gfirstClause gresolution gmotion gaway gawayMany gawayOrder gtable gcommittee glone gentry gchange gyesBy gnoBy gdraft grow growMany growFloats gsaved 1) (cwV 1 hts (gV q_1471 q_1473 q_57 q_76 q_1474) rfl rfl rfl (by decide +kernel) ⟨Nat.le_of_ble_eq_true rfl, Nat.le_of_ble_eq_true rfl⟩) ⟨PP_blind, va_recv hK hP (ci := 12) (q0 := 0) rfl rfl, PP_of hK (hP.sub [0] rfl)⟩ rfl rfl hl.1 rfl (lv_room (Nat.le_of_ble_eq_true rfl)) dX12_countOfMeeting_130 ⟨Nat.le_of_ble_eq_true rfl, Nat.le_of_ble_eq_true rfl⟩) ?_
      exact W.iret hx hb hr (fun t ht hW => ⟨by rw [com, if_neg h.2], ht⟩) (fun q hq => absurd hq List.not_mem_nil) dX12_countOfMeeting_133
    · refine lv_aload_n hx hb dX12_countOfMeeting_115 rfl (lv_at hl 0 rfl) ?_
      refine lv_iconst (v := 2) hx hb dX12_countOfMeeting_116 (by decide) ?_
      refine p_call (va_runV (As := [.int 2]) (rest := []) ⟨hx, hb, hml, hown, hts⟩ (c_X12_questionsIn l D cI cQ cM cR m0 gweight gpresent gspeeches gbuffer gstate gplace gmover gpart gamended gmany gclause gfirstMany gfirstClause gresolution gmotion gaway gawayMany gawayOrder gtable gcommittee glone gentry gchange gyesBy gnoBy gdraft grow growMany growFloats gsaved 2) (cwV 1 hts (gV q_1471 q_1473 q_57 q_76 q_1474) rfl rfl rfl (by decide +kernel) ⟨Nat.le_of_ble_eq_true rfl, Nat.le_of_ble_eq_true rfl⟩) ⟨PP_blind, va_recv hK hP (ci := 12) (q0 := 0) rfl rfl, PP_of hK (hP.sub [0] rfl)⟩ rfl rfl hl.1 rfl (lv_room (Nat.le_of_ble_eq_true rfl)) dX12_countOfMeeting_117 ⟨Nat.le_of_ble_eq_true rfl, Nat.le_of_ble_eq_true rfl⟩) ?_
      refine lv_aload_n hx hb dX12_countOfMeeting_120 rfl (lv_at hl 0 rfl) ?_
      refine va_get (D := D) (ci := 12) (v := .int 0) (C := RX12) (T := TX12) (N := 63) hx hb hts in_X12 hown hK hP 0 rfl rfl 40 (by decide) (hts _ q_1060) (fun _ h9 => h9) rfl dX12_countOfMeeting_121 ?_
      refine lv_iadd hx hb dX12_countOfMeeting_124 ?_
      refine lv_cst (v := 0) (by decide) ?_
      refine lv_goto (tgt := 133) hx hb dX12_countOfMeeting_125 (by decide) ?_
      exact W.iret hx hb hr (fun t ht hW => ⟨by rw [com, if_neg h.2], ht⟩) (fun q hq => absurd hq List.not_mem_nil) dX12_countOfMeeting_133
  · skip
    refine lv_iload_n hx hb dX12_countOfMeeting_0 rfl (lv_at hl 1 rfl) ?_
    refine lv_tableIn (tgt := 52) hx hb dX12_countOfMeeting_1 (by decide) (by decide) rfl (by decide) ?_
    refine lv_aload_n hx hb dX12_countOfMeeting_52 rfl (lv_at hl 0 rfl) ?_
    refine va_get (D := D) (ci := 12) (v := .int 0) (C := RX12) (T := TX12) (N := 63) hx hb hts in_X12 hown hK hP 0 rfl rfl 5 (by decide) (hts _ q_1025) (fun _ h9 => h9) rfl dX12_countOfMeeting_53 ?_
    exact W.iret hx hb hr (fun t ht hW => ⟨by first | rfl | decide, ht⟩) (fun q hq => absurd hq List.not_mem_nil) dX12_countOfMeeting_56
  · skip
    refine lv_iload_n hx hb dX12_countOfMeeting_0 rfl (lv_at hl 1 rfl) ?_
    refine lv_tableIn (tgt := 57) hx hb dX12_countOfMeeting_1 (by decide) (by decide) rfl (by decide) ?_
    refine lv_iconst (v := 1) hx hb dX12_countOfMeeting_57 (by decide) ?_
    refine lv_aload_n hx hb dX12_countOfMeeting_58 rfl (lv_at hl 0 rfl) ?_
    refine va_get (D := D) (ci := 12) (v := .int 0) (C := RX12) (T := TX12) (N := 63) hx hb hts in_X12 hown hK hP 0 rfl rfl 6 (by decide) (hts _ q_1026) (fun _ h9 => h9) rfl dX12_countOfMeeting_59 ?_
    refine lv_isub hx hb dX12_countOfMeeting_62 ?_
    refine lv_cst (v := 1) (by decide) ?_
    exact W.iret hx hb hr (fun t ht hW => ⟨by first | rfl | decide, ht⟩) (fun q hq => absurd hq List.not_mem_nil) dX12_countOfMeeting_63
  · skip
    refine lv_iload_n hx hb dX12_countOfMeeting_0 rfl (lv_at hl 1 rfl) ?_
    refine lv_tableIn (tgt := 64) hx hb dX12_countOfMeeting_1 (by decide) (by decide) rfl (by decide) ?_
    refine lv_aload_n hx hb dX12_countOfMeeting_64 rfl (lv_at hl 0 rfl) ?_
    refine va_get (D := D) (ci := 12) (v := .int 0) (C := RX12) (T := TX12) (N := 63) hx hb hts in_X12 hown hK hP 0 rfl rfl 3 (by decide) (hts _ q_1023) (fun _ h9 => h9) rfl dX12_countOfMeeting_65 ?_
    exact W.iret hx hb hr (fun t ht hW => ⟨by first | rfl | decide, ht⟩) (fun q hq => absurd hq List.not_mem_nil) dX12_countOfMeeting_68
  · skip
    refine lv_iload_n hx hb dX12_countOfMeeting_0 rfl (lv_at hl 1 rfl) ?_
    refine lv_tableIn (tgt := 69) hx hb dX12_countOfMeeting_1 (by decide) (by decide) rfl (by decide) ?_
    refine lv_aload_n hx hb dX12_countOfMeeting_69 rfl (lv_at hl 0 rfl) ?_
    refine p_call (va_runV (As := []) (rest := []) ⟨hx, hb, hml, hown, hts⟩ (c_X12_presentWeight l D cI cQ cM cR m0 gweight gpresent gspeeches gbuffer gstate gplace gmover gpart gamended gmany gclause gfirstMany gfirstClause gresolution gmotion gaway gawayMany gawayOrder gtable gcommittee glone gentry gchange gyesBy gnoBy gdraft grow growMany growFloats gsaved) (cwV 0 hts (gV q_1252 q_1254 q_25 q_76 q_1255) rfl rfl rfl (by decide +kernel) ⟨Nat.le_of_ble_eq_true rfl, Nat.le_of_ble_eq_true rfl⟩) ⟨PP_blind, va_recv hK hP (ci := 12) (q0 := 0) rfl rfl, PP_of hK (hP.sub [0] rfl)⟩ rfl rfl hl.1 rfl (lv_room (Nat.le_of_ble_eq_true rfl)) dX12_countOfMeeting_70 ⟨Nat.le_of_ble_eq_true rfl, Nat.le_of_ble_eq_true rfl⟩) ?_
    exact W.iret hx hb hr (fun t ht hW => ⟨by first | rfl | decide, ht⟩) (fun q hq => absurd hq List.not_mem_nil) dX12_countOfMeeting_73
  · skip
    refine lv_iload_n hx hb dX12_countOfMeeting_0 rfl (lv_at hl 1 rfl) ?_
    refine lv_tableIn (tgt := 74) hx hb dX12_countOfMeeting_1 (by decide) (by decide) rfl (by decide) ?_
    refine lv_aload_n hx hb dX12_countOfMeeting_74 rfl (lv_at hl 0 rfl) ?_
    refine lv_iconst (v := (-1)) hx hb dX12_countOfMeeting_75 (by decide) ?_
    refine lv_iconst (v := 0) hx hb dX12_countOfMeeting_76 (by decide) ?_
    refine p_call (va_runV (As := [.int (-1), .int 0]) (rest := []) ⟨hx, hb, hml, hown, hts⟩ (c_X12_weightOf l D cI cQ cM cR m0 gweight gpresent gspeeches gbuffer gstate gplace gmover gpart gamended gmany gclause gfirstMany gfirstClause gresolution gmotion gaway gawayMany gawayOrder gtable gcommittee glone gentry gchange gyesBy gnoBy gdraft grow growMany growFloats gsaved (-1) 0) (cwV 2 hts (gV q_1256 q_1258 q_26 q_76 q_1259) rfl rfl rfl (by decide +kernel) ⟨Nat.le_of_ble_eq_true rfl, Nat.le_of_ble_eq_true rfl⟩) ⟨PP_blind, va_recv hK hP (ci := 12) (q0 := 0) rfl rfl, PP_of hK (hP.sub [0] rfl)⟩ rfl rfl hl.1 rfl (lv_room (Nat.le_of_ble_eq_true rfl)) dX12_countOfMeeting_77 ⟨Nat.le_of_ble_eq_true rfl, Nat.le_of_ble_eq_true rfl⟩) ?_
    exact W.iret hx hb hr (fun t ht hW => ⟨by first | rfl | decide, ht⟩) (fun q hq => absurd hq List.not_mem_nil) dX12_countOfMeeting_80
  · skip
    refine lv_iload_n hx hb dX12_countOfMeeting_0 rfl (lv_at hl 1 rfl) ?_
    refine lv_tableIn (tgt := 81) hx hb dX12_countOfMeeting_1 (by decide) (by decide) rfl (by decide) ?_
    refine lv_aload_n hx hb dX12_countOfMeeting_81 rfl (lv_at hl 0 rfl) ?_
    refine p_call (va_runV (As := []) (rest := []) ⟨hx, hb, hml, hown, hts⟩ (c_X12_hasQuorum l D cI cQ cM cR m0 gweight gpresent gspeeches gbuffer gstate gplace gmover gpart gamended gmany gclause gfirstMany gfirstClause gresolution gmotion gaway gawayMany gawayOrder gtable gcommittee glone gentry gchange gyesBy gnoBy gdraft grow growMany growFloats gsaved) (cwV 0 hts (gV q_1248 q_1250 q_24 q_76 q_1251) rfl rfl rfl (by decide +kernel) ⟨Nat.le_of_ble_eq_true rfl, Nat.le_of_ble_eq_true rfl⟩) ⟨PP_blind, va_recv hK hP (ci := 12) (q0 := 0) rfl rfl, PP_of hK (hP.sub [0] rfl)⟩ rfl rfl hl.1 rfl (lv_room (Nat.le_of_ble_eq_true rfl)) dX12_countOfMeeting_82 ⟨Nat.le_of_ble_eq_true rfl, Nat.le_of_ble_eq_true rfl⟩) ?_
    refine lv_if_eq (tgt := 92) hx hb dX12_countOfMeeting_85 (by decide) (fun _ => ?_) (fun c9 => absurd (by decide) c9)
    refine lv_iconst (v := 0) hx hb dX12_countOfMeeting_92 (by decide) ?_
    exact W.iret hx hb hr (fun t ht hW => ⟨by first | rfl | decide, ht⟩) (fun q hq => absurd hq List.not_mem_nil) dX12_countOfMeeting_93
  · skip
    refine lv_iload_n hx hb dX12_countOfMeeting_0 rfl (lv_at hl 1 rfl) ?_
    refine lv_tableIn (tgt := 94) hx hb dX12_countOfMeeting_1 (by decide) (by decide) rfl (by decide) ?_
    refine lv_aload_n hx hb dX12_countOfMeeting_94 rfl (lv_at hl 0 rfl) ?_
    refine va_get (D := D) (ci := 12) (v := .int 0) (C := RX12) (T := TX12) (N := 63) hx hb hts in_X12 hown hK hP 0 rfl rfl 18 (by decide) (hts _ q_1038) (fun _ h9 => h9) rfl dX12_countOfMeeting_95 ?_
    exact W.iret hx hb hr (fun t ht hW => ⟨by first | rfl | decide, ht⟩) (fun q hq => absurd hq List.not_mem_nil) dX12_countOfMeeting_98
  · skip
    refine lv_iload_n hx hb dX12_countOfMeeting_0 rfl (lv_at hl 1 rfl) ?_
    refine lv_tableIn (tgt := 99) hx hb dX12_countOfMeeting_1 (by decide) (by decide) rfl (by decide) ?_
    refine lv_aload_n hx hb dX12_countOfMeeting_99 rfl (lv_at hl 0 rfl) ?_
    refine va_get (D := D) (ci := 12) (v := .int 0) (C := RX12) (T := TX12) (N := 63) hx hb hts in_X12 hown hK hP 0 rfl rfl 19 (by decide) (hts _ q_1039) (fun _ h9 => h9) rfl dX12_countOfMeeting_100 ?_
    exact W.iret hx hb hr (fun t ht hW => ⟨by first | rfl | decide, ht⟩) (fun q hq => absurd hq List.not_mem_nil) dX12_countOfMeeting_103
  · skip
    refine lv_iload_n hx hb dX12_countOfMeeting_0 rfl (lv_at hl 1 rfl) ?_
    refine lv_tableIn (tgt := 104) hx hb dX12_countOfMeeting_1 (by decide) (by decide) rfl (by decide) ?_
    refine lv_aload_n hx hb dX12_countOfMeeting_104 rfl (lv_at hl 0 rfl) ?_
    refine va_get (D := D) (ci := 12) (v := .int 0) (C := RX12) (T := TX12) (N := 63) hx hb hts in_X12 hown hK hP 0 rfl rfl 29 (by decide) (hts _ q_1049) (fun _ h9 => h9) rfl dX12_countOfMeeting_105 ?_
    exact W.iret hx hb hr (fun t ht hW => ⟨by first | rfl | decide, ht⟩) (fun q hq => absurd hq List.not_mem_nil) dX12_countOfMeeting_108
theorem dX12_count_0 : decode cX12_count 0 = .ok (.iload_n 1, 1) := by decide +kernel
theorem dX12_count_1 : decode cX12_count 1 = .ok (.iconst 0, 1) := by decide +kernel
theorem dX12_count_2 : decode cX12_count 2 = .ok (.bipush 10, 2) := by decide +kernel
theorem dX12_count_4 : decode cX12_count 4 = .ok (.invokestatic 130, 3) := by decide +kernel
theorem dX12_count_7 : decode cX12_count 7 = .ok (.ifCond .eq 9, 3) := by decide +kernel
theorem dX12_count_10 : decode cX12_count 10 = .ok (.aload_n 0, 1) := by decide +kernel
theorem dX12_count_11 : decode cX12_count 11 = .ok (.iload_n 1, 1) := by decide +kernel
theorem dX12_count_12 : decode cX12_count 12 = .ok (.invokevirtual 350, 3) := by decide +kernel
theorem dX12_count_15 : decode cX12_count 15 = .ok (.ireturn, 1) := by decide +kernel
theorem dX12_count_16 : decode cX12_count 16 = .ok (.iload_n 1, 1) := by decide +kernel
theorem dX12_count_17 : decode cX12_count 17 = .ok (.tableswitch 110 11 18 #[47, 64, 80, 85, 90, 95, 100, 105], 47) := by decide +kernel
theorem dX12_count_64 : decode cX12_count 64 = .ok (.aload_n 0, 1) := by decide +kernel
theorem dX12_count_65 : decode cX12_count 65 = .ok (.getfield 55, 3) := by decide +kernel
theorem dX12_count_68 : decode cX12_count 68 = .ok (.ifCond .ge 8, 3) := by decide +kernel
theorem dX12_count_71 : decode cX12_count 71 = .ok (.bipush (-5), 2) := by decide +kernel
theorem dX12_count_73 : decode cX12_count 73 = .ok (.goto 7, 3) := by decide +kernel
theorem dX12_count_80 : decode cX12_count 80 = .ok (.ireturn, 1) := by decide +kernel
theorem dX12_count_81 : decode cX12_count 81 = .ok (.aload_n 0, 1) := by decide +kernel
theorem dX12_count_82 : decode cX12_count 82 = .ok (.getfield 55, 3) := by decide +kernel
theorem dX12_count_85 : decode cX12_count 85 = .ok (.ifCond .ge 7, 3) := by decide +kernel
theorem dX12_count_88 : decode cX12_count 88 = .ok (.iconst 0, 1) := by decide +kernel
theorem dX12_count_89 : decode cX12_count 89 = .ok (.goto 7, 3) := by decide +kernel
theorem dX12_count_96 : decode cX12_count 96 = .ok (.ireturn, 1) := by decide +kernel
theorem dX12_count_97 : decode cX12_count 97 = .ok (.aload_n 0, 1) := by decide +kernel
theorem dX12_count_98 : decode cX12_count 98 = .ok (.getfield 226, 3) := by decide +kernel
theorem dX12_count_101 : decode cX12_count 101 = .ok (.ireturn, 1) := by decide +kernel
theorem dX12_count_102 : decode cX12_count 102 = .ok (.aload_n 0, 1) := by decide +kernel
theorem dX12_count_103 : decode cX12_count 103 = .ok (.getfield 306, 3) := by decide +kernel
theorem dX12_count_106 : decode cX12_count 106 = .ok (.ireturn, 1) := by decide +kernel
theorem dX12_count_107 : decode cX12_count 107 = .ok (.aload_n 0, 1) := by decide +kernel
theorem dX12_count_108 : decode cX12_count 108 = .ok (.getfield 309, 3) := by decide +kernel
theorem dX12_count_111 : decode cX12_count 111 = .ok (.ireturn, 1) := by decide +kernel
theorem dX12_count_112 : decode cX12_count 112 = .ok (.aload_n 0, 1) := by decide +kernel
theorem dX12_count_113 : decode cX12_count 113 = .ok (.invokevirtual 353, 3) := by decide +kernel
theorem dX12_count_116 : decode cX12_count 116 = .ok (.ireturn, 1) := by decide +kernel
theorem dX12_count_117 : decode cX12_count 117 = .ok (.aload_n 0, 1) := by decide +kernel
theorem dX12_count_118 : decode cX12_count 118 = .ok (.getfield 261, 3) := by decide +kernel
theorem dX12_count_121 : decode cX12_count 121 = .ok (.ireturn, 1) := by decide +kernel
theorem dX12_count_122 : decode cX12_count 122 = .ok (.aload_n 0, 1) := by decide +kernel
theorem dX12_count_123 : decode cX12_count 123 = .ok (.getfield 240, 3) := by decide +kernel
theorem dX12_count_126 : decode cX12_count 126 = .ok (.ireturn, 1) := by decide +kernel
theorem dX12_count_127 : decode cX12_count 127 = .ok (.iconst (-1), 1) := by decide +kernel
theorem dX12_count_128 : decode cX12_count 128 = .ok (.ireturn, 1) := by decide +kernel
set_option maxRecDepth 100000 in
theorem q_1478 : (.code yX12_allPending cX12_allPending 3 (some .int)) ∈ lw_all := List.mem_filter.mpr ⟨List.mem_of_getElem? (i := 1478) (rfl), by decide +kernel⟩
set_option maxRecDepth 100000 in
theorem q_1470 : (.code yX12_countOfMeeting cX12_countOfMeeting 2 (some .int)) ∈ lw_all := List.mem_filter.mpr ⟨List.mem_of_getElem? (i := 1470) (rfl), by decide +kernel⟩
set_option maxRecDepth 100000 in
theorem q_1051 : (.fieldLink RX12 226 "AssemblyChairModel" "made" "I") ∈ lw_all := List.mem_filter.mpr ⟨List.mem_of_getElem? (i := 1051) (by decide +kernel), by decide +kernel⟩
set_option maxRecDepth 100000 in
theorem q_1055 : (.fieldLink RX12 240 "AssemblyChairModel" "camePart" "I") ∈ lw_all := List.mem_filter.mpr ⟨List.mem_of_getElem? (i := 1055) (by decide +kernel), by decide +kernel⟩
set_option maxRecDepth 100000 in
theorem q_1054 : (.fieldLink RX12 261 "AssemblyChairModel" "dropped" "I") ∈ lw_all := List.mem_filter.mpr ⟨List.mem_of_getElem? (i := 1054) (by decide +kernel), by decide +kernel⟩
set_option maxRecDepth 100000 in
theorem q_1052 : (.fieldLink RX12 306 "AssemblyChairModel" "adopted" "I") ∈ lw_all := List.mem_filter.mpr ⟨List.mem_of_getElem? (i := 1052) (by decide +kernel), by decide +kernel⟩
set_option maxRecDepth 100000 in
theorem q_1053 : (.fieldLink RX12 309 "AssemblyChairModel" "rejected" "I") ∈ lw_all := List.mem_filter.mpr ⟨List.mem_of_getElem? (i := 1053) (by decide +kernel), by decide +kernel⟩
set_option maxRecDepth 100000 in
theorem q_1477 : (.instanceMethod yX12_allPending) ∈ lw_all := List.mem_filter.mpr ⟨List.mem_of_getElem? (i := 1477) (by decide +kernel), by decide +kernel⟩
set_option maxRecDepth 100000 in
theorem q_1469 : (.instanceMethod yX12_countOfMeeting) ∈ lw_all := List.mem_filter.mpr ⟨List.mem_of_getElem? (i := 1469) (by decide +kernel), by decide +kernel⟩
set_option maxRecDepth 100000 in
theorem q_1467 : (.methodLink RX12 350 yX12_countOfMeeting) ∈ lw_all := List.mem_filter.mpr ⟨List.mem_of_getElem? (i := 1467) (by decide +kernel), by decide +kernel⟩
set_option maxRecDepth 100000 in
theorem q_1475 : (.methodLink RX12 353 yX12_allPending) ∈ lw_all := List.mem_filter.mpr ⟨List.mem_of_getElem? (i := 1475) (by decide +kernel), by decide +kernel⟩
set_option maxRecDepth 100000 in
theorem q_58 : (.selects RX12 yX12_allPending yX12_allPending) ∈ lw_all := List.mem_filter.mpr ⟨List.mem_of_getElem? (i := 58) (by decide +kernel), by decide +kernel⟩
set_option maxRecDepth 100000 in
theorem q_56 : (.selects RX12 yX12_countOfMeeting yX12_countOfMeeting) ∈ lw_all := List.mem_filter.mpr ⟨List.mem_of_getElem? (i := 56) (by decide +kernel), by decide +kernel⟩
set_option maxHeartbeats 4000000 in
set_option maxRecDepth 100000 in
theorem c_X12_count (l : Launch) (D : va_G) (cI cQ cM cR : ClassId) (m0 : Nat) (gweight : Nat) (gpresent : Nat) (gspeeches : Nat) (gbuffer : Nat) (gstate : Nat) (gplace : Nat) (gmover : Nat) (gpart : Nat) (gamended : Nat) (gmany : Nat) (gclause : Nat) (gfirstMany : Nat) (gfirstClause : Nat) (gresolution : Nat) (gmotion : Nat) (gaway : Nat) (gawayMany : Nat) (gawayOrder : Nat) (gtable : Nat) (gcommittee : Nat) (glone : Nat) (gentry : Nat) (gchange : Nat) (gyesBy : Nat) (gnoBy : Nat) (gdraft : Nat) (grow : Nat) (growMany : Nat) (growFloats : Nat) (gsaved : Nat) (p0 : Int32) : Met l yX12_count (ws_ yX12_count cX12_count 2 (some .int)) ({ frames := 3, cells := 0, slots := 0, locals := 65 }) (PP D cI cQ cM cR [.ref m0, .int p0] [(m0, .inr (12, [.ref gweight, .ref gpresent, .ref gspeeches, .int 0, .int 50, .int 0, .int 0, .ref gbuffer, .ref gstate, .ref gplace, .ref gmover, .ref gpart, .ref gamended, .ref gmany, .ref gclause, .ref gfirstMany, .ref gfirstClause, .int 0, .int 0, .int 0, .int (-1), .ref gresolution, .ref gmotion, .ref gaway, .ref gawayMany, .ref gawayOrder, .ref gtable, .ref gcommittee, .int 0, .int 0, .int 0, .int 0, .int 0, .int 0, .int 0, .int 0, .int (-5), .int 0, .int 0, .ref glone, .int 0, .ref gentry, .ref gchange, .int 0, .int (-1), .int 0, .int 0, .ref gyesBy, .ref gnoBy, .int 0, .int 0, .int 0, .int 0, .int 0, .int 0, .ref gdraft, .ref grow, .ref growMany, .ref growFloats, .ref gsaved, .int 0, .int 0, .int 0]))]) (QP (some (.int (sp_count p0)))) 0 0 (fun _ => False) := by
  refine Met.ofW (cc := cX12_count) (maxL := 2) (ret := (some .int)) (by decide) rfl ?_
  intro p e s m args below meth c s₁ B hml hv
  obtain ⟨rfl, hP, hK⟩ := hv
  have hx := B.exec
  have hb := B.bytes
  have hr := B.returns
  have hts : ∀ w ∈ lw_all, w.before _ s = true := fun w h => atoms_spec (ws := (ws_ yX12_count cX12_count 2 (some .int))) B.pre w (List.mem_cons_of_mem _ h)
  have hown : s.vm.findClass RX12 = some m.cls := findClass_of_methodNamed B.named
  have hlocks := B.notSynchronized
  have hP : va_P D vwCl [(m0, .inr (12, [.ref gweight, .ref gpresent, .ref gspeeches, .int 0, .int 50, .int 0, .int 0, .ref gbuffer, .ref gstate, .ref gplace, .ref gmover, .ref gpart, .ref gamended, .ref gmany, .ref gclause, .ref gfirstMany, .ref gfirstClause, .int 0, .int 0, .int 0, .int (-1), .ref gresolution, .ref gmotion, .ref gaway, .ref gawayMany, .ref gawayOrder, .ref gtable, .ref gcommittee, .int 0, .int 0, .int 0, .int 0, .int 0, .int 0, .int 0, .int 0, .int (-5), .int 0, .int 0, .ref glone, .int 0, .ref gentry, .ref gchange, .int 0, .int (-1), .int 0, .int 0, .ref gyesBy, .ref gnoBy, .int 0, .int 0, .int 0, .int 0, .int 0, .int 0, .ref gdraft, .ref grow, .ref growMany, .ref growFloats, .ref gsaved, .int 0, .int 0, .int 0]))] s.heap := hP
  have hl := lv_entry ([.ref m0, .int p0]) (n := 2) (Nat.le_of_ble_eq_true rfl)
  rw [lg_entry_eq]
  generalize (lg_sl ([.ref m0, .int p0]) ++ List.replicate (2 - (lg_sl ([.ref m0, .int p0])).length) Slot.unset).toArray = ls at hl ⊢
  have hl : lv_has ls 2 [(0, .ref m0), (1, .int p0)] := hl
  rcases split19 p0 with ⟨h, h2⟩ | ⟨h, h2⟩ | rfl | rfl | rfl | rfl | rfl | rfl | rfl | rfl | rfl | rfl | rfl | rfl | rfl | rfl | rfl | rfl | rfl | rfl | rfl
  · skip
    refine lv_iload_n hx hb dX12_count_0 rfl (lv_at hl 1 rfl) ?_
    refine lv_iconst (v := 0) hx hb dX12_count_1 (by decide) ?_
    refine lv_bipush (v := 10) hx hb dX12_count_2 (by decide) ?_
    refine p_call (va_runS (As := [.int p0, .int 0, .int 10]) (rest := []) ⟨hx, hb, hml, hown, hts⟩ (c_X12_isBetween l D cI cQ cM cR p0 0 10) (va_cwS 3 hts (gS q_1214 q_1215 q_76 q_1216) rfl rfl rfl (by decide +kernel) ⟨Nat.le_of_ble_eq_true rfl, Nat.le_of_ble_eq_true rfl⟩) ⟨PP_blind, PP_of hK (hP.sub [] rfl)⟩ rfl rfl hl.1 rfl (lv_room (Nat.le_of_ble_eq_true rfl)) dX12_count_4 ⟨Nat.le_of_ble_eq_true rfl, Nat.le_of_ble_eq_true rfl⟩) ?_
    refine lv_cst (v := 0) (btw_lt 10 h) ?_
    refine lv_if_eq (tgt := 16) hx hb dX12_count_7 (by decide) (fun _ => ?_) (fun c9 => absurd (by decide) c9)
    refine lv_iload_n hx hb dX12_count_16 rfl (lv_at hl 1 rfl) ?_
    refine lv_tableOut (tgt := 127) hx hb dX12_count_17 (Or.inl (by omega)) (by decide) ?_
    refine lv_iconst (v := (-1)) hx hb dX12_count_127 (by decide) ?_
    exact W.iret hx hb hr (fun t ht hW => ⟨by rw [sp_count_lt h], ht⟩) (fun q hq => absurd hq List.not_mem_nil) dX12_count_128
  · skip
    refine lv_iload_n hx hb dX12_count_0 rfl (lv_at hl 1 rfl) ?_
    refine lv_iconst (v := 0) hx hb dX12_count_1 (by decide) ?_
    refine lv_bipush (v := 10) hx hb dX12_count_2 (by decide) ?_
    refine p_call (va_runS (As := [.int p0, .int 0, .int 10]) (rest := []) ⟨hx, hb, hml, hown, hts⟩ (c_X12_isBetween l D cI cQ cM cR p0 0 10) (va_cwS 3 hts (gS q_1214 q_1215 q_76 q_1216) rfl rfl rfl (by decide +kernel) ⟨Nat.le_of_ble_eq_true rfl, Nat.le_of_ble_eq_true rfl⟩) ⟨PP_blind, PP_of hK (hP.sub [] rfl)⟩ rfl rfl hl.1 rfl (lv_room (Nat.le_of_ble_eq_true rfl)) dX12_count_4 ⟨Nat.le_of_ble_eq_true rfl, Nat.le_of_ble_eq_true rfl⟩) ?_
    refine lv_cst (v := 0) (btw_gt 0 (gt10 h)) ?_
    refine lv_if_eq (tgt := 16) hx hb dX12_count_7 (by decide) (fun _ => ?_) (fun c9 => absurd (by decide) c9)
    refine lv_iload_n hx hb dX12_count_16 rfl (lv_at hl 1 rfl) ?_
    refine lv_tableOut (tgt := 127) hx hb dX12_count_17 (Or.inr h2) (by decide) ?_
    refine lv_iconst (v := (-1)) hx hb dX12_count_127 (by decide) ?_
    exact W.iret hx hb hr (fun t ht hW => ⟨by rw [sp_count_gt h], ht⟩) (fun q hq => absurd hq List.not_mem_nil) dX12_count_128
  · skip
    refine lv_iload_n hx hb dX12_count_0 rfl (lv_at hl 1 rfl) ?_
    refine lv_iconst (v := 0) hx hb dX12_count_1 (by decide) ?_
    refine lv_bipush (v := 10) hx hb dX12_count_2 (by decide) ?_
    refine p_call (va_runS (As := [.int 0, .int 0, .int 10]) (rest := []) ⟨hx, hb, hml, hown, hts⟩ (c_X12_isBetween l D cI cQ cM cR 0 0 10) (va_cwS 3 hts (gS q_1214 q_1215 q_76 q_1216) rfl rfl rfl (by decide +kernel) ⟨Nat.le_of_ble_eq_true rfl, Nat.le_of_ble_eq_true rfl⟩) ⟨PP_blind, PP_of hK (hP.sub [] rfl)⟩ rfl rfl hl.1 rfl (lv_room (Nat.le_of_ble_eq_true rfl)) dX12_count_4 ⟨Nat.le_of_ble_eq_true rfl, Nat.le_of_ble_eq_true rfl⟩) ?_
    refine lv_cst (v := 1) (by decide) ?_
    refine lv_if_eq (tgt := 16) hx hb dX12_count_7 (by decide) (fun c9 => absurd c9 (by decide)) (fun _ => ?_)
    refine lv_aload_n hx hb dX12_count_10 rfl (lv_at hl 0 rfl) ?_
    refine lv_iload_n hx hb dX12_count_11 rfl (lv_at hl 1 rfl) ?_
    refine p_call (va_runV (As := [.int 0]) (rest := []) ⟨hx, hb, hml, hown, hts⟩ (c_X12_countOfMeeting l D cI cQ cM cR m0 gweight gpresent gspeeches gbuffer gstate gplace gmover gpart gamended gmany gclause gfirstMany gfirstClause gresolution gmotion gaway gawayMany gawayOrder gtable gcommittee glone gentry gchange gyesBy gnoBy gdraft grow growMany growFloats gsaved 0) (cwV 1 hts (gV q_1467 q_1469 q_56 q_76 q_1470) rfl rfl rfl (by decide +kernel) ⟨Nat.le_of_ble_eq_true rfl, Nat.le_of_ble_eq_true rfl⟩) ⟨PP_blind, va_recv hK hP (ci := 12) (q0 := 0) rfl rfl, PP_of hK (hP.sub [0] rfl)⟩ rfl rfl hl.1 rfl (lv_room (Nat.le_of_ble_eq_true rfl)) dX12_count_12 ⟨Nat.le_of_ble_eq_true rfl, Nat.le_of_ble_eq_true rfl⟩) ?_
    refine lv_cst (v := 0) (by decide) ?_
    exact W.iret hx hb hr (fun t ht hW => ⟨by first | rfl | decide, ht⟩) (fun q hq => absurd hq List.not_mem_nil) dX12_count_15
  · skip
    refine lv_iload_n hx hb dX12_count_0 rfl (lv_at hl 1 rfl) ?_
    refine lv_iconst (v := 0) hx hb dX12_count_1 (by decide) ?_
    refine lv_bipush (v := 10) hx hb dX12_count_2 (by decide) ?_
    refine p_call (va_runS (As := [.int 1, .int 0, .int 10]) (rest := []) ⟨hx, hb, hml, hown, hts⟩ (c_X12_isBetween l D cI cQ cM cR 1 0 10) (va_cwS 3 hts (gS q_1214 q_1215 q_76 q_1216) rfl rfl rfl (by decide +kernel) ⟨Nat.le_of_ble_eq_true rfl, Nat.le_of_ble_eq_true rfl⟩) ⟨PP_blind, PP_of hK (hP.sub [] rfl)⟩ rfl rfl hl.1 rfl (lv_room (Nat.le_of_ble_eq_true rfl)) dX12_count_4 ⟨Nat.le_of_ble_eq_true rfl, Nat.le_of_ble_eq_true rfl⟩) ?_
    refine lv_cst (v := 1) (by decide) ?_
    refine lv_if_eq (tgt := 16) hx hb dX12_count_7 (by decide) (fun c9 => absurd c9 (by decide)) (fun _ => ?_)
    refine lv_aload_n hx hb dX12_count_10 rfl (lv_at hl 0 rfl) ?_
    refine lv_iload_n hx hb dX12_count_11 rfl (lv_at hl 1 rfl) ?_
    refine p_call (va_runV (As := [.int 1]) (rest := []) ⟨hx, hb, hml, hown, hts⟩ (c_X12_countOfMeeting l D cI cQ cM cR m0 gweight gpresent gspeeches gbuffer gstate gplace gmover gpart gamended gmany gclause gfirstMany gfirstClause gresolution gmotion gaway gawayMany gawayOrder gtable gcommittee glone gentry gchange gyesBy gnoBy gdraft grow growMany growFloats gsaved 1) (cwV 1 hts (gV q_1467 q_1469 q_56 q_76 q_1470) rfl rfl rfl (by decide +kernel) ⟨Nat.le_of_ble_eq_true rfl, Nat.le_of_ble_eq_true rfl⟩) ⟨PP_blind, va_recv hK hP (ci := 12) (q0 := 0) rfl rfl, PP_of hK (hP.sub [0] rfl)⟩ rfl rfl hl.1 rfl (lv_room (Nat.le_of_ble_eq_true rfl)) dX12_count_12 ⟨Nat.le_of_ble_eq_true rfl, Nat.le_of_ble_eq_true rfl⟩) ?_
    refine lv_cst (v := 1) (by decide) ?_
    exact W.iret hx hb hr (fun t ht hW => ⟨by first | rfl | decide, ht⟩) (fun q hq => absurd hq List.not_mem_nil) dX12_count_15
  · skip
    refine lv_iload_n hx hb dX12_count_0 rfl (lv_at hl 1 rfl) ?_
    refine lv_iconst (v := 0) hx hb dX12_count_1 (by decide) ?_
    refine lv_bipush (v := 10) hx hb dX12_count_2 (by decide) ?_
    refine p_call (va_runS (As := [.int 2, .int 0, .int 10]) (rest := []) ⟨hx, hb, hml, hown, hts⟩ (c_X12_isBetween l D cI cQ cM cR 2 0 10) (va_cwS 3 hts (gS q_1214 q_1215 q_76 q_1216) rfl rfl rfl (by decide +kernel) ⟨Nat.le_of_ble_eq_true rfl, Nat.le_of_ble_eq_true rfl⟩) ⟨PP_blind, PP_of hK (hP.sub [] rfl)⟩ rfl rfl hl.1 rfl (lv_room (Nat.le_of_ble_eq_true rfl)) dX12_count_4 ⟨Nat.le_of_ble_eq_true rfl, Nat.le_of_ble_eq_true rfl⟩) ?_
    refine lv_cst (v := 1) (by decide) ?_
    refine lv_if_eq (tgt := 16) hx hb dX12_count_7 (by decide) (fun c9 => absurd c9 (by decide)) (fun _ => ?_)
    refine lv_aload_n hx hb dX12_count_10 rfl (lv_at hl 0 rfl) ?_
    refine lv_iload_n hx hb dX12_count_11 rfl (lv_at hl 1 rfl) ?_
    refine p_call (va_runV (As := [.int 2]) (rest := []) ⟨hx, hb, hml, hown, hts⟩ (c_X12_countOfMeeting l D cI cQ cM cR m0 gweight gpresent gspeeches gbuffer gstate gplace gmover gpart gamended gmany gclause gfirstMany gfirstClause gresolution gmotion gaway gawayMany gawayOrder gtable gcommittee glone gentry gchange gyesBy gnoBy gdraft grow growMany growFloats gsaved 2) (cwV 1 hts (gV q_1467 q_1469 q_56 q_76 q_1470) rfl rfl rfl (by decide +kernel) ⟨Nat.le_of_ble_eq_true rfl, Nat.le_of_ble_eq_true rfl⟩) ⟨PP_blind, va_recv hK hP (ci := 12) (q0 := 0) rfl rfl, PP_of hK (hP.sub [0] rfl)⟩ rfl rfl hl.1 rfl (lv_room (Nat.le_of_ble_eq_true rfl)) dX12_count_12 ⟨Nat.le_of_ble_eq_true rfl, Nat.le_of_ble_eq_true rfl⟩) ?_
    refine lv_cst (v := 0) (by decide) ?_
    exact W.iret hx hb hr (fun t ht hW => ⟨by first | rfl | decide, ht⟩) (fun q hq => absurd hq List.not_mem_nil) dX12_count_15
  · skip
    refine lv_iload_n hx hb dX12_count_0 rfl (lv_at hl 1 rfl) ?_
    refine lv_iconst (v := 0) hx hb dX12_count_1 (by decide) ?_
    refine lv_bipush (v := 10) hx hb dX12_count_2 (by decide) ?_
    refine p_call (va_runS (As := [.int 3, .int 0, .int 10]) (rest := []) ⟨hx, hb, hml, hown, hts⟩ (c_X12_isBetween l D cI cQ cM cR 3 0 10) (va_cwS 3 hts (gS q_1214 q_1215 q_76 q_1216) rfl rfl rfl (by decide +kernel) ⟨Nat.le_of_ble_eq_true rfl, Nat.le_of_ble_eq_true rfl⟩) ⟨PP_blind, PP_of hK (hP.sub [] rfl)⟩ rfl rfl hl.1 rfl (lv_room (Nat.le_of_ble_eq_true rfl)) dX12_count_4 ⟨Nat.le_of_ble_eq_true rfl, Nat.le_of_ble_eq_true rfl⟩) ?_
    refine lv_cst (v := 1) (by decide) ?_
    refine lv_if_eq (tgt := 16) hx hb dX12_count_7 (by decide) (fun c9 => absurd c9 (by decide)) (fun _ => ?_)
    refine lv_aload_n hx hb dX12_count_10 rfl (lv_at hl 0 rfl) ?_
    refine lv_iload_n hx hb dX12_count_11 rfl (lv_at hl 1 rfl) ?_
    refine p_call (va_runV (As := [.int 3]) (rest := []) ⟨hx, hb, hml, hown, hts⟩ (c_X12_countOfMeeting l D cI cQ cM cR m0 gweight gpresent gspeeches gbuffer gstate gplace gmover gpart gamended gmany gclause gfirstMany gfirstClause gresolution gmotion gaway gawayMany gawayOrder gtable gcommittee glone gentry gchange gyesBy gnoBy gdraft grow growMany growFloats gsaved 3) (cwV 1 hts (gV q_1467 q_1469 q_56 q_76 q_1470) rfl rfl rfl (by decide +kernel) ⟨Nat.le_of_ble_eq_true rfl, Nat.le_of_ble_eq_true rfl⟩) ⟨PP_blind, va_recv hK hP (ci := 12) (q0 := 0) rfl rfl, PP_of hK (hP.sub [0] rfl)⟩ rfl rfl hl.1 rfl (lv_room (Nat.le_of_ble_eq_true rfl)) dX12_count_12 ⟨Nat.le_of_ble_eq_true rfl, Nat.le_of_ble_eq_true rfl⟩) ?_
    refine lv_cst (v := 0) (by decide) ?_
    exact W.iret hx hb hr (fun t ht hW => ⟨by first | rfl | decide, ht⟩) (fun q hq => absurd hq List.not_mem_nil) dX12_count_15
  · skip
    refine lv_iload_n hx hb dX12_count_0 rfl (lv_at hl 1 rfl) ?_
    refine lv_iconst (v := 0) hx hb dX12_count_1 (by decide) ?_
    refine lv_bipush (v := 10) hx hb dX12_count_2 (by decide) ?_
    refine p_call (va_runS (As := [.int 4, .int 0, .int 10]) (rest := []) ⟨hx, hb, hml, hown, hts⟩ (c_X12_isBetween l D cI cQ cM cR 4 0 10) (va_cwS 3 hts (gS q_1214 q_1215 q_76 q_1216) rfl rfl rfl (by decide +kernel) ⟨Nat.le_of_ble_eq_true rfl, Nat.le_of_ble_eq_true rfl⟩) ⟨PP_blind, PP_of hK (hP.sub [] rfl)⟩ rfl rfl hl.1 rfl (lv_room (Nat.le_of_ble_eq_true rfl)) dX12_count_4 ⟨Nat.le_of_ble_eq_true rfl, Nat.le_of_ble_eq_true rfl⟩) ?_
    refine lv_cst (v := 1) (by decide) ?_
    refine lv_if_eq (tgt := 16) hx hb dX12_count_7 (by decide) (fun c9 => absurd c9 (by decide)) (fun _ => ?_)
    refine lv_aload_n hx hb dX12_count_10 rfl (lv_at hl 0 rfl) ?_
    refine lv_iload_n hx hb dX12_count_11 rfl (lv_at hl 1 rfl) ?_
    refine p_call (va_runV (As := [.int 4]) (rest := []) ⟨hx, hb, hml, hown, hts⟩ (c_X12_countOfMeeting l D cI cQ cM cR m0 gweight gpresent gspeeches gbuffer gstate gplace gmover gpart gamended gmany gclause gfirstMany gfirstClause gresolution gmotion gaway gawayMany gawayOrder gtable gcommittee glone gentry gchange gyesBy gnoBy gdraft grow growMany growFloats gsaved 4) (cwV 1 hts (gV q_1467 q_1469 q_56 q_76 q_1470) rfl rfl rfl (by decide +kernel) ⟨Nat.le_of_ble_eq_true rfl, Nat.le_of_ble_eq_true rfl⟩) ⟨PP_blind, va_recv hK hP (ci := 12) (q0 := 0) rfl rfl, PP_of hK (hP.sub [0] rfl)⟩ rfl rfl hl.1 rfl (lv_room (Nat.le_of_ble_eq_true rfl)) dX12_count_12 ⟨Nat.le_of_ble_eq_true rfl, Nat.le_of_ble_eq_true rfl⟩) ?_
    refine lv_cst (v := 0) (by decide) ?_
    exact W.iret hx hb hr (fun t ht hW => ⟨by first | rfl | decide, ht⟩) (fun q hq => absurd hq List.not_mem_nil) dX12_count_15
  · skip
    refine lv_iload_n hx hb dX12_count_0 rfl (lv_at hl 1 rfl) ?_
    refine lv_iconst (v := 0) hx hb dX12_count_1 (by decide) ?_
    refine lv_bipush (v := 10) hx hb dX12_count_2 (by decide) ?_
    refine p_call (va_runS (As := [.int 5, .int 0, .int 10]) (rest := []) ⟨hx, hb, hml, hown, hts⟩ (c_X12_isBetween l D cI cQ cM cR 5 0 10) (va_cwS 3 hts (gS q_1214 q_1215 q_76 q_1216) rfl rfl rfl (by decide +kernel) ⟨Nat.le_of_ble_eq_true rfl, Nat.le_of_ble_eq_true rfl⟩) ⟨PP_blind, PP_of hK (hP.sub [] rfl)⟩ rfl rfl hl.1 rfl (lv_room (Nat.le_of_ble_eq_true rfl)) dX12_count_4 ⟨Nat.le_of_ble_eq_true rfl, Nat.le_of_ble_eq_true rfl⟩) ?_
    refine lv_cst (v := 1) (by decide) ?_
    refine lv_if_eq (tgt := 16) hx hb dX12_count_7 (by decide) (fun c9 => absurd c9 (by decide)) (fun _ => ?_)
    refine lv_aload_n hx hb dX12_count_10 rfl (lv_at hl 0 rfl) ?_
    refine lv_iload_n hx hb dX12_count_11 rfl (lv_at hl 1 rfl) ?_
    refine p_call (va_runV (As := [.int 5]) (rest := []) ⟨hx, hb, hml, hown, hts⟩ (c_X12_countOfMeeting l D cI cQ cM cR m0 gweight gpresent gspeeches gbuffer gstate gplace gmover gpart gamended gmany gclause gfirstMany gfirstClause gresolution gmotion gaway gawayMany gawayOrder gtable gcommittee glone gentry gchange gyesBy gnoBy gdraft grow growMany growFloats gsaved 5) (cwV 1 hts (gV q_1467 q_1469 q_56 q_76 q_1470) rfl rfl rfl (by decide +kernel) ⟨Nat.le_of_ble_eq_true rfl, Nat.le_of_ble_eq_true rfl⟩) ⟨PP_blind, va_recv hK hP (ci := 12) (q0 := 0) rfl rfl, PP_of hK (hP.sub [0] rfl)⟩ rfl rfl hl.1 rfl (lv_room (Nat.le_of_ble_eq_true rfl)) dX12_count_12 ⟨Nat.le_of_ble_eq_true rfl, Nat.le_of_ble_eq_true rfl⟩) ?_
    refine lv_cst (v := 0) (by decide) ?_
    exact W.iret hx hb hr (fun t ht hW => ⟨by first | rfl | decide, ht⟩) (fun q hq => absurd hq List.not_mem_nil) dX12_count_15
  · skip
    refine lv_iload_n hx hb dX12_count_0 rfl (lv_at hl 1 rfl) ?_
    refine lv_iconst (v := 0) hx hb dX12_count_1 (by decide) ?_
    refine lv_bipush (v := 10) hx hb dX12_count_2 (by decide) ?_
    refine p_call (va_runS (As := [.int 6, .int 0, .int 10]) (rest := []) ⟨hx, hb, hml, hown, hts⟩ (c_X12_isBetween l D cI cQ cM cR 6 0 10) (va_cwS 3 hts (gS q_1214 q_1215 q_76 q_1216) rfl rfl rfl (by decide +kernel) ⟨Nat.le_of_ble_eq_true rfl, Nat.le_of_ble_eq_true rfl⟩) ⟨PP_blind, PP_of hK (hP.sub [] rfl)⟩ rfl rfl hl.1 rfl (lv_room (Nat.le_of_ble_eq_true rfl)) dX12_count_4 ⟨Nat.le_of_ble_eq_true rfl, Nat.le_of_ble_eq_true rfl⟩) ?_
    refine lv_cst (v := 1) (by decide) ?_
    refine lv_if_eq (tgt := 16) hx hb dX12_count_7 (by decide) (fun c9 => absurd c9 (by decide)) (fun _ => ?_)
    refine lv_aload_n hx hb dX12_count_10 rfl (lv_at hl 0 rfl) ?_
    refine lv_iload_n hx hb dX12_count_11 rfl (lv_at hl 1 rfl) ?_
    refine p_call (va_runV (As := [.int 6]) (rest := []) ⟨hx, hb, hml, hown, hts⟩ (c_X12_countOfMeeting l D cI cQ cM cR m0 gweight gpresent gspeeches gbuffer gstate gplace gmover gpart gamended gmany gclause gfirstMany gfirstClause gresolution gmotion gaway gawayMany gawayOrder gtable gcommittee glone gentry gchange gyesBy gnoBy gdraft grow growMany growFloats gsaved 6) (cwV 1 hts (gV q_1467 q_1469 q_56 q_76 q_1470) rfl rfl rfl (by decide +kernel) ⟨Nat.le_of_ble_eq_true rfl, Nat.le_of_ble_eq_true rfl⟩) ⟨PP_blind, va_recv hK hP (ci := 12) (q0 := 0) rfl rfl, PP_of hK (hP.sub [0] rfl)⟩ rfl rfl hl.1 rfl (lv_room (Nat.le_of_ble_eq_true rfl)) dX12_count_12 ⟨Nat.le_of_ble_eq_true rfl, Nat.le_of_ble_eq_true rfl⟩) ?_
    refine lv_cst (v := 0) (by decide) ?_
    exact W.iret hx hb hr (fun t ht hW => ⟨by first | rfl | decide, ht⟩) (fun q hq => absurd hq List.not_mem_nil) dX12_count_15
  · skip
    refine lv_iload_n hx hb dX12_count_0 rfl (lv_at hl 1 rfl) ?_
    refine lv_iconst (v := 0) hx hb dX12_count_1 (by decide) ?_
    refine lv_bipush (v := 10) hx hb dX12_count_2 (by decide) ?_
    refine p_call (va_runS (As := [.int 7, .int 0, .int 10]) (rest := []) ⟨hx, hb, hml, hown, hts⟩ (c_X12_isBetween l D cI cQ cM cR 7 0 10) (va_cwS 3 hts (gS q_1214 q_1215 q_76 q_1216) rfl rfl rfl (by decide +kernel) ⟨Nat.le_of_ble_eq_true rfl, Nat.le_of_ble_eq_true rfl⟩) ⟨PP_blind, PP_of hK (hP.sub [] rfl)⟩ rfl rfl hl.1 rfl (lv_room (Nat.le_of_ble_eq_true rfl)) dX12_count_4 ⟨Nat.le_of_ble_eq_true rfl, Nat.le_of_ble_eq_true rfl⟩) ?_
    refine lv_cst (v := 1) (by decide) ?_
    refine lv_if_eq (tgt := 16) hx hb dX12_count_7 (by decide) (fun c9 => absurd c9 (by decide)) (fun _ => ?_)
    refine lv_aload_n hx hb dX12_count_10 rfl (lv_at hl 0 rfl) ?_
    refine lv_iload_n hx hb dX12_count_11 rfl (lv_at hl 1 rfl) ?_
    refine p_call (va_runV (As := [.int 7]) (rest := []) ⟨hx, hb, hml, hown, hts⟩ (c_X12_countOfMeeting l D cI cQ cM cR m0 gweight gpresent gspeeches gbuffer gstate gplace gmover gpart gamended gmany gclause gfirstMany gfirstClause gresolution gmotion gaway gawayMany gawayOrder gtable gcommittee glone gentry gchange gyesBy gnoBy gdraft grow growMany growFloats gsaved 7) (cwV 1 hts (gV q_1467 q_1469 q_56 q_76 q_1470) rfl rfl rfl (by decide +kernel) ⟨Nat.le_of_ble_eq_true rfl, Nat.le_of_ble_eq_true rfl⟩) ⟨PP_blind, va_recv hK hP (ci := 12) (q0 := 0) rfl rfl, PP_of hK (hP.sub [0] rfl)⟩ rfl rfl hl.1 rfl (lv_room (Nat.le_of_ble_eq_true rfl)) dX12_count_12 ⟨Nat.le_of_ble_eq_true rfl, Nat.le_of_ble_eq_true rfl⟩) ?_
    refine lv_cst (v := 0) (by decide) ?_
    exact W.iret hx hb hr (fun t ht hW => ⟨by first | rfl | decide, ht⟩) (fun q hq => absurd hq List.not_mem_nil) dX12_count_15
  · skip
    refine lv_iload_n hx hb dX12_count_0 rfl (lv_at hl 1 rfl) ?_
    refine lv_iconst (v := 0) hx hb dX12_count_1 (by decide) ?_
    refine lv_bipush (v := 10) hx hb dX12_count_2 (by decide) ?_
    refine p_call (va_runS (As := [.int 8, .int 0, .int 10]) (rest := []) ⟨hx, hb, hml, hown, hts⟩ (c_X12_isBetween l D cI cQ cM cR 8 0 10) (va_cwS 3 hts (gS q_1214 q_1215 q_76 q_1216) rfl rfl rfl (by decide +kernel) ⟨Nat.le_of_ble_eq_true rfl, Nat.le_of_ble_eq_true rfl⟩) ⟨PP_blind, PP_of hK (hP.sub [] rfl)⟩ rfl rfl hl.1 rfl (lv_room (Nat.le_of_ble_eq_true rfl)) dX12_count_4 ⟨Nat.le_of_ble_eq_true rfl, Nat.le_of_ble_eq_true rfl⟩) ?_
    refine lv_cst (v := 1) (by decide) ?_
    refine lv_if_eq (tgt := 16) hx hb dX12_count_7 (by decide) (fun c9 => absurd c9 (by decide)) (fun _ => ?_)
    refine lv_aload_n hx hb dX12_count_10 rfl (lv_at hl 0 rfl) ?_
    refine lv_iload_n hx hb dX12_count_11 rfl (lv_at hl 1 rfl) ?_
    refine p_call (va_runV (As := [.int 8]) (rest := []) ⟨hx, hb, hml, hown, hts⟩ (c_X12_countOfMeeting l D cI cQ cM cR m0 gweight gpresent gspeeches gbuffer gstate gplace gmover gpart gamended gmany gclause gfirstMany gfirstClause gresolution gmotion gaway gawayMany gawayOrder gtable gcommittee glone gentry gchange gyesBy gnoBy gdraft grow growMany growFloats gsaved 8) (cwV 1 hts (gV q_1467 q_1469 q_56 q_76 q_1470) rfl rfl rfl (by decide +kernel) ⟨Nat.le_of_ble_eq_true rfl, Nat.le_of_ble_eq_true rfl⟩) ⟨PP_blind, va_recv hK hP (ci := 12) (q0 := 0) rfl rfl, PP_of hK (hP.sub [0] rfl)⟩ rfl rfl hl.1 rfl (lv_room (Nat.le_of_ble_eq_true rfl)) dX12_count_12 ⟨Nat.le_of_ble_eq_true rfl, Nat.le_of_ble_eq_true rfl⟩) ?_
    refine lv_cst (v := 0) (by decide) ?_
    exact W.iret hx hb hr (fun t ht hW => ⟨by first | rfl | decide, ht⟩) (fun q hq => absurd hq List.not_mem_nil) dX12_count_15
  · skip
    refine lv_iload_n hx hb dX12_count_0 rfl (lv_at hl 1 rfl) ?_
    refine lv_iconst (v := 0) hx hb dX12_count_1 (by decide) ?_
    refine lv_bipush (v := 10) hx hb dX12_count_2 (by decide) ?_
    refine p_call (va_runS (As := [.int 9, .int 0, .int 10]) (rest := []) ⟨hx, hb, hml, hown, hts⟩ (c_X12_isBetween l D cI cQ cM cR 9 0 10) (va_cwS 3 hts (gS q_1214 q_1215 q_76 q_1216) rfl rfl rfl (by decide +kernel) ⟨Nat.le_of_ble_eq_true rfl, Nat.le_of_ble_eq_true rfl⟩) ⟨PP_blind, PP_of hK (hP.sub [] rfl)⟩ rfl rfl hl.1 rfl (lv_room (Nat.le_of_ble_eq_true rfl)) dX12_count_4 ⟨Nat.le_of_ble_eq_true rfl, Nat.le_of_ble_eq_true rfl⟩) ?_
    refine lv_cst (v := 1) (by decide) ?_
    refine lv_if_eq (tgt := 16) hx hb dX12_count_7 (by decide) (fun c9 => absurd c9 (by decide)) (fun _ => ?_)
    refine lv_aload_n hx hb dX12_count_10 rfl (lv_at hl 0 rfl) ?_
    refine lv_iload_n hx hb dX12_count_11 rfl (lv_at hl 1 rfl) ?_
    refine p_call (va_runV (As := [.int 9]) (rest := []) ⟨hx, hb, hml, hown, hts⟩ (c_X12_countOfMeeting l D cI cQ cM cR m0 gweight gpresent gspeeches gbuffer gstate gplace gmover gpart gamended gmany gclause gfirstMany gfirstClause gresolution gmotion gaway gawayMany gawayOrder gtable gcommittee glone gentry gchange gyesBy gnoBy gdraft grow growMany growFloats gsaved 9) (cwV 1 hts (gV q_1467 q_1469 q_56 q_76 q_1470) rfl rfl rfl (by decide +kernel) ⟨Nat.le_of_ble_eq_true rfl, Nat.le_of_ble_eq_true rfl⟩) ⟨PP_blind, va_recv hK hP (ci := 12) (q0 := 0) rfl rfl, PP_of hK (hP.sub [0] rfl)⟩ rfl rfl hl.1 rfl (lv_room (Nat.le_of_ble_eq_true rfl)) dX12_count_12 ⟨Nat.le_of_ble_eq_true rfl, Nat.le_of_ble_eq_true rfl⟩) ?_
    refine lv_cst (v := 0) (by decide) ?_
    exact W.iret hx hb hr (fun t ht hW => ⟨by first | rfl | decide, ht⟩) (fun q hq => absurd hq List.not_mem_nil) dX12_count_15
  · skip
    refine lv_iload_n hx hb dX12_count_0 rfl (lv_at hl 1 rfl) ?_
    refine lv_iconst (v := 0) hx hb dX12_count_1 (by decide) ?_
    refine lv_bipush (v := 10) hx hb dX12_count_2 (by decide) ?_
    refine p_call (va_runS (As := [.int 10, .int 0, .int 10]) (rest := []) ⟨hx, hb, hml, hown, hts⟩ (c_X12_isBetween l D cI cQ cM cR 10 0 10) (va_cwS 3 hts (gS q_1214 q_1215 q_76 q_1216) rfl rfl rfl (by decide +kernel) ⟨Nat.le_of_ble_eq_true rfl, Nat.le_of_ble_eq_true rfl⟩) ⟨PP_blind, PP_of hK (hP.sub [] rfl)⟩ rfl rfl hl.1 rfl (lv_room (Nat.le_of_ble_eq_true rfl)) dX12_count_4 ⟨Nat.le_of_ble_eq_true rfl, Nat.le_of_ble_eq_true rfl⟩) ?_
    refine lv_cst (v := 1) (by decide) ?_
    refine lv_if_eq (tgt := 16) hx hb dX12_count_7 (by decide) (fun c9 => absurd c9 (by decide)) (fun _ => ?_)
    refine lv_aload_n hx hb dX12_count_10 rfl (lv_at hl 0 rfl) ?_
    refine lv_iload_n hx hb dX12_count_11 rfl (lv_at hl 1 rfl) ?_
    refine p_call (va_runV (As := [.int 10]) (rest := []) ⟨hx, hb, hml, hown, hts⟩ (c_X12_countOfMeeting l D cI cQ cM cR m0 gweight gpresent gspeeches gbuffer gstate gplace gmover gpart gamended gmany gclause gfirstMany gfirstClause gresolution gmotion gaway gawayMany gawayOrder gtable gcommittee glone gentry gchange gyesBy gnoBy gdraft grow growMany growFloats gsaved 10) (cwV 1 hts (gV q_1467 q_1469 q_56 q_76 q_1470) rfl rfl rfl (by decide +kernel) ⟨Nat.le_of_ble_eq_true rfl, Nat.le_of_ble_eq_true rfl⟩) ⟨PP_blind, va_recv hK hP (ci := 12) (q0 := 0) rfl rfl, PP_of hK (hP.sub [0] rfl)⟩ rfl rfl hl.1 rfl (lv_room (Nat.le_of_ble_eq_true rfl)) dX12_count_12 ⟨Nat.le_of_ble_eq_true rfl, Nat.le_of_ble_eq_true rfl⟩) ?_
    refine lv_cst (v := 0) (by decide) ?_
    exact W.iret hx hb hr (fun t ht hW => ⟨by first | rfl | decide, ht⟩) (fun q hq => absurd hq List.not_mem_nil) dX12_count_15
  · skip
    refine lv_iload_n hx hb dX12_count_0 rfl (lv_at hl 1 rfl) ?_
    refine lv_iconst (v := 0) hx hb dX12_count_1 (by decide) ?_
    refine lv_bipush (v := 10) hx hb dX12_count_2 (by decide) ?_
    refine p_call (va_runS (As := [.int 11, .int 0, .int 10]) (rest := []) ⟨hx, hb, hml, hown, hts⟩ (c_X12_isBetween l D cI cQ cM cR 11 0 10) (va_cwS 3 hts (gS q_1214 q_1215 q_76 q_1216) rfl rfl rfl (by decide +kernel) ⟨Nat.le_of_ble_eq_true rfl, Nat.le_of_ble_eq_true rfl⟩) ⟨PP_blind, PP_of hK (hP.sub [] rfl)⟩ rfl rfl hl.1 rfl (lv_room (Nat.le_of_ble_eq_true rfl)) dX12_count_4 ⟨Nat.le_of_ble_eq_true rfl, Nat.le_of_ble_eq_true rfl⟩) ?_
    refine lv_cst (v := 0) (by decide) ?_
    refine lv_if_eq (tgt := 16) hx hb dX12_count_7 (by decide) (fun _ => ?_) (fun c9 => absurd (by decide) c9)
    refine lv_iload_n hx hb dX12_count_16 rfl (lv_at hl 1 rfl) ?_
    refine lv_tableIn (tgt := 64) hx hb dX12_count_17 (by decide) (by decide) rfl (by decide) ?_
    refine lv_aload_n hx hb dX12_count_64 rfl (lv_at hl 0 rfl) ?_
    refine va_get (D := D) (ci := 12) (v := .int (-1)) (C := RX12) (T := TX12) (N := 63) hx hb hts in_X12 hown hK hP 0 rfl rfl 20 (by decide) (hts _ q_1040) (fun _ h9 => h9) rfl dX12_count_65 ?_
    refine lv_if_ge (tgt := 76) hx hb dX12_count_68 (by decide) (fun c9 => absurd c9 (by decide)) (fun _ => ?_)
    refine lv_bipush (v := (-5)) hx hb dX12_count_71 (by decide) ?_
    refine lv_goto (tgt := 80) hx hb dX12_count_73 (by decide) ?_
    exact W.iret hx hb hr (fun t ht hW => ⟨by first | rfl | decide, ht⟩) (fun q hq => absurd hq List.not_mem_nil) dX12_count_80
  · skip
    refine lv_iload_n hx hb dX12_count_0 rfl (lv_at hl 1 rfl) ?_
    refine lv_iconst (v := 0) hx hb dX12_count_1 (by decide) ?_
    refine lv_bipush (v := 10) hx hb dX12_count_2 (by decide) ?_
    refine p_call (va_runS (As := [.int 12, .int 0, .int 10]) (rest := []) ⟨hx, hb, hml, hown, hts⟩ (c_X12_isBetween l D cI cQ cM cR 12 0 10) (va_cwS 3 hts (gS q_1214 q_1215 q_76 q_1216) rfl rfl rfl (by decide +kernel) ⟨Nat.le_of_ble_eq_true rfl, Nat.le_of_ble_eq_true rfl⟩) ⟨PP_blind, PP_of hK (hP.sub [] rfl)⟩ rfl rfl hl.1 rfl (lv_room (Nat.le_of_ble_eq_true rfl)) dX12_count_4 ⟨Nat.le_of_ble_eq_true rfl, Nat.le_of_ble_eq_true rfl⟩) ?_
    refine lv_cst (v := 0) (by decide) ?_
    refine lv_if_eq (tgt := 16) hx hb dX12_count_7 (by decide) (fun _ => ?_) (fun c9 => absurd (by decide) c9)
    refine lv_iload_n hx hb dX12_count_16 rfl (lv_at hl 1 rfl) ?_
    refine lv_tableIn (tgt := 81) hx hb dX12_count_17 (by decide) (by decide) rfl (by decide) ?_
    refine lv_aload_n hx hb dX12_count_81 rfl (lv_at hl 0 rfl) ?_
    refine va_get (D := D) (ci := 12) (v := .int (-1)) (C := RX12) (T := TX12) (N := 63) hx hb hts in_X12 hown hK hP 0 rfl rfl 20 (by decide) (hts _ q_1040) (fun _ h9 => h9) rfl dX12_count_82 ?_
    refine lv_if_ge (tgt := 92) hx hb dX12_count_85 (by decide) (fun c9 => absurd c9 (by decide)) (fun _ => ?_)
    refine lv_iconst (v := 0) hx hb dX12_count_88 (by decide) ?_
    refine lv_goto (tgt := 96) hx hb dX12_count_89 (by decide) ?_
    exact W.iret hx hb hr (fun t ht hW => ⟨by first | rfl | decide, ht⟩) (fun q hq => absurd hq List.not_mem_nil) dX12_count_96
  · skip
    refine lv_iload_n hx hb dX12_count_0 rfl (lv_at hl 1 rfl) ?_
    refine lv_iconst (v := 0) hx hb dX12_count_1 (by decide) ?_
    refine lv_bipush (v := 10) hx hb dX12_count_2 (by decide) ?_
    refine p_call (va_runS (As := [.int 13, .int 0, .int 10]) (rest := []) ⟨hx, hb, hml, hown, hts⟩ (c_X12_isBetween l D cI cQ cM cR 13 0 10) (va_cwS 3 hts (gS q_1214 q_1215 q_76 q_1216) rfl rfl rfl (by decide +kernel) ⟨Nat.le_of_ble_eq_true rfl, Nat.le_of_ble_eq_true rfl⟩) ⟨PP_blind, PP_of hK (hP.sub [] rfl)⟩ rfl rfl hl.1 rfl (lv_room (Nat.le_of_ble_eq_true rfl)) dX12_count_4 ⟨Nat.le_of_ble_eq_true rfl, Nat.le_of_ble_eq_true rfl⟩) ?_
    refine lv_cst (v := 0) (by decide) ?_
    refine lv_if_eq (tgt := 16) hx hb dX12_count_7 (by decide) (fun _ => ?_) (fun c9 => absurd (by decide) c9)
    refine lv_iload_n hx hb dX12_count_16 rfl (lv_at hl 1 rfl) ?_
    refine lv_tableIn (tgt := 97) hx hb dX12_count_17 (by decide) (by decide) rfl (by decide) ?_
    refine lv_aload_n hx hb dX12_count_97 rfl (lv_at hl 0 rfl) ?_
    refine va_get (D := D) (ci := 12) (v := .int 0) (C := RX12) (T := TX12) (N := 63) hx hb hts in_X12 hown hK hP 0 rfl rfl 31 (by decide) (hts _ q_1051) (fun _ h9 => h9) rfl dX12_count_98 ?_
    exact W.iret hx hb hr (fun t ht hW => ⟨by first | rfl | decide, ht⟩) (fun q hq => absurd hq List.not_mem_nil) dX12_count_101
  · skip
    refine lv_iload_n hx hb dX12_count_0 rfl (lv_at hl 1 rfl) ?_
    refine lv_iconst (v := 0) hx hb dX12_count_1 (by decide) ?_
    refine lv_bipush (v := 10) hx hb dX12_count_2 (by decide) ?_
    refine p_call (va_runS (As := [.int 14, .int 0, .int 10]) (rest := []) ⟨hx, hb, hml, hown, hts⟩ (c_X12_isBetween l D cI cQ cM cR 14 0 10) (va_cwS 3 hts (gS q_1214 q_1215 q_76 q_1216) rfl rfl rfl (by decide +kernel) ⟨Nat.le_of_ble_eq_true rfl, Nat.le_of_ble_eq_true rfl⟩) ⟨PP_blind, PP_of hK (hP.sub [] rfl)⟩ rfl rfl hl.1 rfl (lv_room (Nat.le_of_ble_eq_true rfl)) dX12_count_4 ⟨Nat.le_of_ble_eq_true rfl, Nat.le_of_ble_eq_true rfl⟩) ?_
    refine lv_cst (v := 0) (by decide) ?_
    refine lv_if_eq (tgt := 16) hx hb dX12_count_7 (by decide) (fun _ => ?_) (fun c9 => absurd (by decide) c9)
    refine lv_iload_n hx hb dX12_count_16 rfl (lv_at hl 1 rfl) ?_
    refine lv_tableIn (tgt := 102) hx hb dX12_count_17 (by decide) (by decide) rfl (by decide) ?_
    refine lv_aload_n hx hb dX12_count_102 rfl (lv_at hl 0 rfl) ?_
    refine va_get (D := D) (ci := 12) (v := .int 0) (C := RX12) (T := TX12) (N := 63) hx hb hts in_X12 hown hK hP 0 rfl rfl 32 (by decide) (hts _ q_1052) (fun _ h9 => h9) rfl dX12_count_103 ?_
    exact W.iret hx hb hr (fun t ht hW => ⟨by first | rfl | decide, ht⟩) (fun q hq => absurd hq List.not_mem_nil) dX12_count_106
  · skip
    refine lv_iload_n hx hb dX12_count_0 rfl (lv_at hl 1 rfl) ?_
    refine lv_iconst (v := 0) hx hb dX12_count_1 (by decide) ?_
    refine lv_bipush (v := 10) hx hb dX12_count_2 (by decide) ?_
    refine p_call (va_runS (As := [.int 15, .int 0, .int 10]) (rest := []) ⟨hx, hb, hml, hown, hts⟩ (c_X12_isBetween l D cI cQ cM cR 15 0 10) (va_cwS 3 hts (gS q_1214 q_1215 q_76 q_1216) rfl rfl rfl (by decide +kernel) ⟨Nat.le_of_ble_eq_true rfl, Nat.le_of_ble_eq_true rfl⟩) ⟨PP_blind, PP_of hK (hP.sub [] rfl)⟩ rfl rfl hl.1 rfl (lv_room (Nat.le_of_ble_eq_true rfl)) dX12_count_4 ⟨Nat.le_of_ble_eq_true rfl, Nat.le_of_ble_eq_true rfl⟩) ?_
    refine lv_cst (v := 0) (by decide) ?_
    refine lv_if_eq (tgt := 16) hx hb dX12_count_7 (by decide) (fun _ => ?_) (fun c9 => absurd (by decide) c9)
    refine lv_iload_n hx hb dX12_count_16 rfl (lv_at hl 1 rfl) ?_
    refine lv_tableIn (tgt := 107) hx hb dX12_count_17 (by decide) (by decide) rfl (by decide) ?_
    refine lv_aload_n hx hb dX12_count_107 rfl (lv_at hl 0 rfl) ?_
    refine va_get (D := D) (ci := 12) (v := .int 0) (C := RX12) (T := TX12) (N := 63) hx hb hts in_X12 hown hK hP 0 rfl rfl 33 (by decide) (hts _ q_1053) (fun _ h9 => h9) rfl dX12_count_108 ?_
    exact W.iret hx hb hr (fun t ht hW => ⟨by first | rfl | decide, ht⟩) (fun q hq => absurd hq List.not_mem_nil) dX12_count_111
  · skip
    refine lv_iload_n hx hb dX12_count_0 rfl (lv_at hl 1 rfl) ?_
    refine lv_iconst (v := 0) hx hb dX12_count_1 (by decide) ?_
    refine lv_bipush (v := 10) hx hb dX12_count_2 (by decide) ?_
    refine p_call (va_runS (As := [.int 16, .int 0, .int 10]) (rest := []) ⟨hx, hb, hml, hown, hts⟩ (c_X12_isBetween l D cI cQ cM cR 16 0 10) (va_cwS 3 hts (gS q_1214 q_1215 q_76 q_1216) rfl rfl rfl (by decide +kernel) ⟨Nat.le_of_ble_eq_true rfl, Nat.le_of_ble_eq_true rfl⟩) ⟨PP_blind, PP_of hK (hP.sub [] rfl)⟩ rfl rfl hl.1 rfl (lv_room (Nat.le_of_ble_eq_true rfl)) dX12_count_4 ⟨Nat.le_of_ble_eq_true rfl, Nat.le_of_ble_eq_true rfl⟩) ?_
    refine lv_cst (v := 0) (by decide) ?_
    refine lv_if_eq (tgt := 16) hx hb dX12_count_7 (by decide) (fun _ => ?_) (fun c9 => absurd (by decide) c9)
    refine lv_iload_n hx hb dX12_count_16 rfl (lv_at hl 1 rfl) ?_
    refine lv_tableIn (tgt := 112) hx hb dX12_count_17 (by decide) (by decide) rfl (by decide) ?_
    refine lv_aload_n hx hb dX12_count_112 rfl (lv_at hl 0 rfl) ?_
    refine p_call (va_runV (As := []) (rest := []) ⟨hx, hb, hml, hown, hts⟩ (c_X12_allPending l D cI cQ cM cR m0 gweight gpresent gspeeches gbuffer gstate gplace gmover gpart gamended gmany gclause gfirstMany gfirstClause gresolution gmotion gaway gawayMany gawayOrder gtable gcommittee glone gentry gchange gyesBy gnoBy gdraft grow growMany growFloats gsaved) (cwV 0 hts (gV q_1475 q_1477 q_58 q_76 q_1478) rfl rfl rfl (by decide +kernel) ⟨Nat.le_of_ble_eq_true rfl, Nat.le_of_ble_eq_true rfl⟩) ⟨PP_blind, va_recv hK hP (ci := 12) (q0 := 0) rfl rfl, PP_of hK (hP.sub [0] rfl)⟩ rfl rfl hl.1 rfl (lv_room (Nat.le_of_ble_eq_true rfl)) dX12_count_113 ⟨Nat.le_of_ble_eq_true rfl, Nat.le_of_ble_eq_true rfl⟩) ?_
    exact W.iret hx hb hr (fun t ht hW => ⟨by first | rfl | decide, ht⟩) (fun q hq => absurd hq List.not_mem_nil) dX12_count_116
  · skip
    refine lv_iload_n hx hb dX12_count_0 rfl (lv_at hl 1 rfl) ?_
    refine lv_iconst (v := 0) hx hb dX12_count_1 (by decide) ?_
    refine lv_bipush (v := 10) hx hb dX12_count_2 (by decide) ?_
    refine p_call (va_runS (As := [.int 17, .int 0, .int 10]) (rest := []) ⟨hx, hb, hml, hown, hts⟩ (c_X12_isBetween l D cI cQ cM cR 17 0 10) (va_cwS 3 hts (gS q_1214 q_1215 q_76 q_1216) rfl rfl rfl (by decide +kernel) ⟨Nat.le_of_ble_eq_true rfl, Nat.le_of_ble_eq_true rfl⟩) ⟨PP_blind, PP_of hK (hP.sub [] rfl)⟩ rfl rfl hl.1 rfl (lv_room (Nat.le_of_ble_eq_true rfl)) dX12_count_4 ⟨Nat.le_of_ble_eq_true rfl, Nat.le_of_ble_eq_true rfl⟩) ?_
    refine lv_cst (v := 0) (by decide) ?_
    refine lv_if_eq (tgt := 16) hx hb dX12_count_7 (by decide) (fun _ => ?_) (fun c9 => absurd (by decide) c9)
    refine lv_iload_n hx hb dX12_count_16 rfl (lv_at hl 1 rfl) ?_
    refine lv_tableIn (tgt := 117) hx hb dX12_count_17 (by decide) (by decide) rfl (by decide) ?_
    refine lv_aload_n hx hb dX12_count_117 rfl (lv_at hl 0 rfl) ?_
    refine va_get (D := D) (ci := 12) (v := .int 0) (C := RX12) (T := TX12) (N := 63) hx hb hts in_X12 hown hK hP 0 rfl rfl 34 (by decide) (hts _ q_1054) (fun _ h9 => h9) rfl dX12_count_118 ?_
    exact W.iret hx hb hr (fun t ht hW => ⟨by first | rfl | decide, ht⟩) (fun q hq => absurd hq List.not_mem_nil) dX12_count_121
  · skip
    refine lv_iload_n hx hb dX12_count_0 rfl (lv_at hl 1 rfl) ?_
    refine lv_iconst (v := 0) hx hb dX12_count_1 (by decide) ?_
    refine lv_bipush (v := 10) hx hb dX12_count_2 (by decide) ?_
    refine p_call (va_runS (As := [.int 18, .int 0, .int 10]) (rest := []) ⟨hx, hb, hml, hown, hts⟩ (c_X12_isBetween l D cI cQ cM cR 18 0 10) (va_cwS 3 hts (gS q_1214 q_1215 q_76 q_1216) rfl rfl rfl (by decide +kernel) ⟨Nat.le_of_ble_eq_true rfl, Nat.le_of_ble_eq_true rfl⟩) ⟨PP_blind, PP_of hK (hP.sub [] rfl)⟩ rfl rfl hl.1 rfl (lv_room (Nat.le_of_ble_eq_true rfl)) dX12_count_4 ⟨Nat.le_of_ble_eq_true rfl, Nat.le_of_ble_eq_true rfl⟩) ?_
    refine lv_cst (v := 0) (by decide) ?_
    refine lv_if_eq (tgt := 16) hx hb dX12_count_7 (by decide) (fun _ => ?_) (fun c9 => absurd (by decide) c9)
    refine lv_iload_n hx hb dX12_count_16 rfl (lv_at hl 1 rfl) ?_
    refine lv_tableIn (tgt := 122) hx hb dX12_count_17 (by decide) (by decide) rfl (by decide) ?_
    refine lv_aload_n hx hb dX12_count_122 rfl (lv_at hl 0 rfl) ?_
    refine va_get (D := D) (ci := 12) (v := .int 0) (C := RX12) (T := TX12) (N := 63) hx hb hts in_X12 hown hK hP 0 rfl rfl 35 (by decide) (hts _ q_1055) (fun _ h9 => h9) rfl dX12_count_123 ?_
    exact W.iret hx hb hr (fun t ht hW => ⟨by first | rfl | decide, ht⟩) (fun q hq => absurd hq List.not_mem_nil) dX12_count_126
theorem dX12_store_0 : decode cX12_store 0 = .ok (.iload_n 1, 1) := by decide +kernel
theorem dX12_store_1 : decode cX12_store 1 = .ok (.invokestatic 356, 3) := by decide +kernel
theorem dX12_store_4 : decode cX12_store 4 = .ok (.ifCond .eq 12, 3) := by decide +kernel
theorem dX12_store_7 : decode cX12_store 7 = .ok (.iload_n 2, 1) := by decide +kernel
theorem dX12_store_8 : decode cX12_store 8 = .ok (.iconst 0, 1) := by decide +kernel
theorem dX12_store_9 : decode cX12_store 9 = .ok (.iconst 1, 1) := by decide +kernel
theorem dX12_store_10 : decode cX12_store 10 = .ok (.invokestatic 130, 3) := by decide +kernel
theorem dX12_store_13 : decode cX12_store 13 = .ok (.ifCond .ne 5, 3) := by decide +kernel
theorem dX12_store_16 : decode cX12_store 16 = .ok (.iconst (-1), 1) := by decide +kernel
theorem dX12_store_17 : decode cX12_store 17 = .ok (.ireturn, 1) := by decide +kernel
theorem dX12_store_18 : decode cX12_store 18 = .ok (.iload_n 3, 1) := by decide +kernel
theorem dX12_store_19 : decode cX12_store 19 = .ok (.iconst 0, 1) := by decide +kernel
theorem dX12_store_20 : decode cX12_store 20 = .ok (.iconst 1, 1) := by decide +kernel
theorem dX12_store_21 : decode cX12_store 21 = .ok (.invokestatic 130, 3) := by decide +kernel
theorem dX12_store_24 : decode cX12_store 24 = .ok (.ifCond .ne 6, 3) := by decide +kernel
theorem dX12_store_27 : decode cX12_store 27 = .ok (.bipush (-2), 2) := by decide +kernel
theorem dX12_store_29 : decode cX12_store 29 = .ok (.ireturn, 1) := by decide +kernel
theorem dX12_store_30 : decode cX12_store 30 = .ok (.aload_n 0, 1) := by decide +kernel
theorem dX12_store_31 : decode cX12_store 31 = .ok (.getfield 292, 3) := by decide +kernel
theorem dX12_store_34 : decode cX12_store 34 = .ok (.ifCond .ne 6, 3) := by decide +kernel
theorem dX12_store_37 : decode cX12_store 37 = .ok (.bipush (-3), 2) := by decide +kernel
theorem dX12_store_39 : decode cX12_store 39 = .ok (.ireturn, 1) := by decide +kernel
set_option maxRecDepth 100000 in
theorem q_1485 : (.code yX12_isRow cX12_isRow 1 (some .boolean)) ∈ lw_all := List.mem_filter.mpr ⟨List.mem_of_getElem? (i := 1485) (rfl), by decide +kernel⟩
set_option maxRecDepth 100000 in
theorem q_1483 : (.methodLink RX12 356 yX12_isRow) ∈ lw_all := List.mem_filter.mpr ⟨List.mem_of_getElem? (i := 1483) (by decide +kernel), by decide +kernel⟩
set_option maxRecDepth 100000 in
theorem q_1484 : (.static yX12_isRow) ∈ lw_all := List.mem_filter.mpr ⟨List.mem_of_getElem? (i := 1484) (by decide +kernel), by decide +kernel⟩
set_option maxHeartbeats 4000000 in
set_option maxRecDepth 100000 in
theorem c_X12_store (l : Launch) (D : va_G) (cI cQ cM cR : ClassId) (m0 : Nat) (gweight : Nat) (gpresent : Nat) (gspeeches : Nat) (gbuffer : Nat) (gstate : Nat) (gplace : Nat) (gmover : Nat) (gpart : Nat) (gamended : Nat) (gmany : Nat) (gclause : Nat) (gfirstMany : Nat) (gfirstClause : Nat) (gresolution : Nat) (gmotion : Nat) (gaway : Nat) (gawayMany : Nat) (gawayOrder : Nat) (gtable : Nat) (gcommittee : Nat) (glone : Nat) (gentry : Nat) (gchange : Nat) (gyesBy : Nat) (gnoBy : Nat) (gdraft : Nat) (grow : Nat) (growMany : Nat) (growFloats : Nat) (gsaved : Nat) (p0 : Int32) (p1 : Int32) (p2 : Int32) : Met l yX12_store (ws_ yX12_store cX12_store 8 (some .int)) ({ frames := 1, cells := 0, slots := 0, locals := 22 }) (PP D cI cQ cM cR [.ref m0, .int p0, .int p1, .int p2] [(m0, .inr (12, [.ref gweight, .ref gpresent, .ref gspeeches, .int 0, .int 50, .int 0, .int 0, .ref gbuffer, .ref gstate, .ref gplace, .ref gmover, .ref gpart, .ref gamended, .ref gmany, .ref gclause, .ref gfirstMany, .ref gfirstClause, .int 0, .int 0, .int 0, .int (-1), .ref gresolution, .ref gmotion, .ref gaway, .ref gawayMany, .ref gawayOrder, .ref gtable, .ref gcommittee, .int 0, .int 0, .int 0, .int 0, .int 0, .int 0, .int 0, .int 0, .int (-5), .int 0, .int 0, .ref glone, .int 0, .ref gentry, .ref gchange, .int 0, .int (-1), .int 0, .int 0, .ref gyesBy, .ref gnoBy, .int 0, .int 0, .int 0, .int 0, .int 0, .int 0, .ref gdraft, .ref grow, .ref growMany, .ref growFloats, .ref gsaved, .int 0, .int 0, .int 0]))]) (QP (some (.int (sp_store p0 p1 p2)))) 0 0 (fun _ => False) := by
  refine Met.ofW (cc := cX12_store) (maxL := 8) (ret := (some .int)) (by decide) rfl ?_
  intro p e s m args below meth c s₁ B hml hv
  obtain ⟨rfl, hP, hK⟩ := hv
  have hx := B.exec
  have hb := B.bytes
  have hr := B.returns
  have hts : ∀ w ∈ lw_all, w.before _ s = true := fun w h => atoms_spec (ws := (ws_ yX12_store cX12_store 8 (some .int))) B.pre w (List.mem_cons_of_mem _ h)
  have hown : s.vm.findClass RX12 = some m.cls := findClass_of_methodNamed B.named
  have hlocks := B.notSynchronized
  have hP : va_P D vwCl [(m0, .inr (12, [.ref gweight, .ref gpresent, .ref gspeeches, .int 0, .int 50, .int 0, .int 0, .ref gbuffer, .ref gstate, .ref gplace, .ref gmover, .ref gpart, .ref gamended, .ref gmany, .ref gclause, .ref gfirstMany, .ref gfirstClause, .int 0, .int 0, .int 0, .int (-1), .ref gresolution, .ref gmotion, .ref gaway, .ref gawayMany, .ref gawayOrder, .ref gtable, .ref gcommittee, .int 0, .int 0, .int 0, .int 0, .int 0, .int 0, .int 0, .int 0, .int (-5), .int 0, .int 0, .ref glone, .int 0, .ref gentry, .ref gchange, .int 0, .int (-1), .int 0, .int 0, .ref gyesBy, .ref gnoBy, .int 0, .int 0, .int 0, .int 0, .int 0, .int 0, .ref gdraft, .ref grow, .ref growMany, .ref growFloats, .ref gsaved, .int 0, .int 0, .int 0]))] s.heap := hP
  have hl := lv_entry ([.ref m0, .int p0, .int p1, .int p2]) (n := 8) (Nat.le_of_ble_eq_true rfl)
  rw [lg_entry_eq]
  generalize (lg_sl ([.ref m0, .int p0, .int p1, .int p2]) ++ List.replicate (8 - (lg_sl ([.ref m0, .int p0, .int p1, .int p2])).length) Slot.unset).toArray = ls at hl ⊢
  have hl : lv_has ls 8 [(0, .ref m0), (1, .int p0), (2, .int p1), (3, .int p2)] := hl
  refine lv_iload_n hx hb dX12_store_0 rfl (lv_at hl 1 rfl) ?_
  refine p_call (va_runS (As := [.int p0]) (rest := []) ⟨hx, hb, hml, hown, hts⟩ (c_X12_isRow l D cI cQ cM cR p0) (va_cwS 1 hts (gS q_1483 q_1484 q_76 q_1485) rfl rfl rfl (by decide +kernel) ⟨Nat.le_of_ble_eq_true rfl, Nat.le_of_ble_eq_true rfl⟩) ⟨PP_blind, PP_of hK (hP.sub [] rfl)⟩ rfl rfl hl.1 rfl (lv_room (Nat.le_of_ble_eq_true rfl)) dX12_store_1 ⟨Nat.le_of_ble_eq_true rfl, Nat.le_of_ble_eq_true rfl⟩) ?_
  refine lv_if_eq (tgt := 16) hx hb dX12_store_4 (by decide) (fun c_1 => ?_) (fun c_1 => ?_)
  · refine lv_iconst (v := (-1)) hx hb dX12_store_16 (by decide) ?_
    exact W.iret hx hb hr (fun t ht hW => ⟨by rw [sps0 c_1], ht⟩) (fun q hq => absurd hq List.not_mem_nil) dX12_store_17
  · refine lv_iload_n hx hb dX12_store_7 rfl (lv_at hl 2 rfl) ?_
    refine lv_iconst (v := 0) hx hb dX12_store_8 (by decide) ?_
    refine lv_iconst (v := 1) hx hb dX12_store_9 (by decide) ?_
    refine p_call (va_runS (As := [.int p1, .int 0, .int 1]) (rest := []) ⟨hx, hb, hml, hown, hts⟩ (c_X12_isBetween l D cI cQ cM cR p1 0 1) (va_cwS 3 hts (gS q_1214 q_1215 q_76 q_1216) rfl rfl rfl (by decide +kernel) ⟨Nat.le_of_ble_eq_true rfl, Nat.le_of_ble_eq_true rfl⟩) ⟨PP_blind, PP_of hK (hP.sub [] rfl)⟩ rfl rfl hl.1 rfl (lv_room (Nat.le_of_ble_eq_true rfl)) dX12_store_10 ⟨Nat.le_of_ble_eq_true rfl, Nat.le_of_ble_eq_true rfl⟩) ?_
    refine lv_if_ne (tgt := 18) hx hb dX12_store_13 (by decide) (fun c_2 => ?_) (fun c_2 => ?_)
    · refine lv_iload_n hx hb dX12_store_18 rfl (lv_at hl 3 rfl) ?_
      refine lv_iconst (v := 0) hx hb dX12_store_19 (by decide) ?_
      refine lv_iconst (v := 1) hx hb dX12_store_20 (by decide) ?_
      refine p_call (va_runS (As := [.int p2, .int 0, .int 1]) (rest := []) ⟨hx, hb, hml, hown, hts⟩ (c_X12_isBetween l D cI cQ cM cR p2 0 1) (va_cwS 3 hts (gS q_1214 q_1215 q_76 q_1216) rfl rfl rfl (by decide +kernel) ⟨Nat.le_of_ble_eq_true rfl, Nat.le_of_ble_eq_true rfl⟩) ⟨PP_blind, PP_of hK (hP.sub [] rfl)⟩ rfl rfl hl.1 rfl (lv_room (Nat.le_of_ble_eq_true rfl)) dX12_store_21 ⟨Nat.le_of_ble_eq_true rfl, Nat.le_of_ble_eq_true rfl⟩) ?_
      refine lv_if_ne (tgt := 30) hx hb dX12_store_24 (by decide) (fun c_3 => ?_) (fun c_3 => ?_)
      · refine lv_aload_n hx hb dX12_store_30 rfl (lv_at hl 0 rfl) ?_
        refine va_get (D := D) (ci := 12) (v := .int 0) (C := RX12) (T := TX12) (N := 63) hx hb hts in_X12 hown hK hP 0 rfl rfl 49 (by decide) (hts _ q_1069) (fun _ h9 => h9) rfl dX12_store_31 ?_
        refine lv_if_ne (tgt := 40) hx hb dX12_store_34 (by decide) (fun c9 => absurd (by decide) c9) (fun _ => ?_)
        refine lv_bipush (v := (-3)) hx hb dX12_store_37 (by decide) ?_
        exact W.iret hx hb hr (fun t ht hW => ⟨by rw [sps3 c_1 c_2 c_3], ht⟩) (fun q hq => absurd hq List.not_mem_nil) dX12_store_39
      · refine lv_bipush (v := (-2)) hx hb dX12_store_27 (by decide) ?_
        exact W.iret hx hb hr (fun t ht hW => ⟨by rw [sps2 c_1 c_2 c_3], ht⟩) (fun q hq => absurd hq List.not_mem_nil) dX12_store_29
    · refine lv_iconst (v := (-1)) hx hb dX12_store_16 (by decide) ?_
      exact W.iret hx hb hr (fun t ht hW => ⟨by rw [sps1 c_1 c_2], ht⟩) (fun q hq => absurd hq List.not_mem_nil) dX12_store_17
theorem dX12_copy_0 : decode cX12_copy 0 = .ok (.iload_n 1, 1) := by decide +kernel
theorem dX12_copy_1 : decode cX12_copy 1 = .ok (.invokestatic 356, 3) := by decide +kernel
theorem dX12_copy_4 : decode cX12_copy 4 = .ok (.ifCond .eq 10, 3) := by decide +kernel
theorem dX12_copy_7 : decode cX12_copy 7 = .ok (.iload_n 2, 1) := by decide +kernel
theorem dX12_copy_8 : decode cX12_copy 8 = .ok (.invokestatic 356, 3) := by decide +kernel
theorem dX12_copy_11 : decode cX12_copy 11 = .ok (.ifCond .ne 5, 3) := by decide +kernel
theorem dX12_copy_14 : decode cX12_copy 14 = .ok (.iconst (-1), 1) := by decide +kernel
theorem dX12_copy_15 : decode cX12_copy 15 = .ok (.ireturn, 1) := by decide +kernel
theorem dX12_copy_16 : decode cX12_copy 16 = .ok (.aload_n 0, 1) := by decide +kernel
theorem dX12_copy_17 : decode cX12_copy 17 = .ok (.getfield 106, 3) := by decide +kernel
theorem dX12_copy_20 : decode cX12_copy 20 = .ok (.iload_n 1, 1) := by decide +kernel
theorem dX12_copy_21 : decode cX12_copy 21 = .ok (.iaload, 1) := by decide +kernel
theorem dX12_copy_22 : decode cX12_copy 22 = .ok (.ifCond .eq 12, 3) := by decide +kernel
theorem dX12_copy_34 : decode cX12_copy 34 = .ok (.bipush (-3), 2) := by decide +kernel
theorem dX12_copy_36 : decode cX12_copy 36 = .ok (.ireturn, 1) := by decide +kernel
set_option maxRecDepth 100000 in
theorem q_1077 : (.fieldLink RX12 106 "AssemblyChairModel" "rowMany" "[I") ∈ lw_all := List.mem_filter.mpr ⟨List.mem_of_getElem? (i := 1077) (by decide +kernel), by decide +kernel⟩
set_option maxHeartbeats 4000000 in
set_option maxRecDepth 100000 in
theorem c_X12_copy (l : Launch) (D : va_G) (cI cQ cM cR : ClassId) (m0 : Nat) (gweight : Nat) (gpresent : Nat) (gspeeches : Nat) (gbuffer : Nat) (gstate : Nat) (gplace : Nat) (gmover : Nat) (gpart : Nat) (gamended : Nat) (gmany : Nat) (gclause : Nat) (gfirstMany : Nat) (gfirstClause : Nat) (gresolution : Nat) (gmotion : Nat) (gaway : Nat) (gawayMany : Nat) (gawayOrder : Nat) (gtable : Nat) (gcommittee : Nat) (glone : Nat) (gentry : Nat) (gchange : Nat) (gyesBy : Nat) (gnoBy : Nat) (gdraft : Nat) (grow : Nat) (growMany : Nat) (growFloats : Nat) (gsaved : Nat) (p0 : Int32) (p1 : Int32) (p2 : Int32) : Met l yX12_copy (ws_ yX12_copy cX12_copy 6 (some .int)) ({ frames := 1, cells := 0, slots := 0, locals := 20 }) (PP D cI cQ cM cR [.ref m0, .int p0, .int p1, .int p2] [(m0, .inr (12, [.ref gweight, .ref gpresent, .ref gspeeches, .int 0, .int 50, .int 0, .int 0, .ref gbuffer, .ref gstate, .ref gplace, .ref gmover, .ref gpart, .ref gamended, .ref gmany, .ref gclause, .ref gfirstMany, .ref gfirstClause, .int 0, .int 0, .int 0, .int (-1), .ref gresolution, .ref gmotion, .ref gaway, .ref gawayMany, .ref gawayOrder, .ref gtable, .ref gcommittee, .int 0, .int 0, .int 0, .int 0, .int 0, .int 0, .int 0, .int 0, .int (-5), .int 0, .int 0, .ref glone, .int 0, .ref gentry, .ref gchange, .int 0, .int (-1), .int 0, .int 0, .ref gyesBy, .ref gnoBy, .int 0, .int 0, .int 0, .int 0, .int 0, .int 0, .ref gdraft, .ref grow, .ref growMany, .ref growFloats, .ref gsaved, .int 0, .int 0, .int 0])), (growMany, .inl (cI, 4, .inl (fun _ => 0)))]) (QP (some (.int (sp_two p0 p1)))) 0 0 (fun _ => False) := by
  refine Met.ofW (cc := cX12_copy) (maxL := 6) (ret := (some .int)) (by decide) rfl ?_
  intro p e s m args below meth c s₁ B hml hv
  obtain ⟨rfl, hP, hK⟩ := hv
  have hx := B.exec
  have hb := B.bytes
  have hr := B.returns
  have hts : ∀ w ∈ lw_all, w.before _ s = true := fun w h => atoms_spec (ws := (ws_ yX12_copy cX12_copy 6 (some .int))) B.pre w (List.mem_cons_of_mem _ h)
  have hown : s.vm.findClass RX12 = some m.cls := findClass_of_methodNamed B.named
  have hlocks := B.notSynchronized
  have hP : va_P D vwCl [(m0, .inr (12, [.ref gweight, .ref gpresent, .ref gspeeches, .int 0, .int 50, .int 0, .int 0, .ref gbuffer, .ref gstate, .ref gplace, .ref gmover, .ref gpart, .ref gamended, .ref gmany, .ref gclause, .ref gfirstMany, .ref gfirstClause, .int 0, .int 0, .int 0, .int (-1), .ref gresolution, .ref gmotion, .ref gaway, .ref gawayMany, .ref gawayOrder, .ref gtable, .ref gcommittee, .int 0, .int 0, .int 0, .int 0, .int 0, .int 0, .int 0, .int 0, .int (-5), .int 0, .int 0, .ref glone, .int 0, .ref gentry, .ref gchange, .int 0, .int (-1), .int 0, .int 0, .ref gyesBy, .ref gnoBy, .int 0, .int 0, .int 0, .int 0, .int 0, .int 0, .ref gdraft, .ref grow, .ref growMany, .ref growFloats, .ref gsaved, .int 0, .int 0, .int 0])), (growMany, .inl (cI, 4, .inl (fun _ => 0)))] s.heap := hP
  have hl := lv_entry ([.ref m0, .int p0, .int p1, .int p2]) (n := 6) (Nat.le_of_ble_eq_true rfl)
  rw [lg_entry_eq]
  generalize (lg_sl ([.ref m0, .int p0, .int p1, .int p2]) ++ List.replicate (6 - (lg_sl ([.ref m0, .int p0, .int p1, .int p2])).length) Slot.unset).toArray = ls at hl ⊢
  have hl : lv_has ls 6 [(0, .ref m0), (1, .int p0), (2, .int p1), (3, .int p2)] := hl
  rcases row_split p0 with h | h | rfl | rfl | rfl | rfl
  · skip
    refine lv_iload_n hx hb dX12_copy_0 rfl (lv_at hl 1 rfl) ?_
    refine p_call (va_runS (As := [.int p0]) (rest := []) ⟨hx, hb, hml, hown, hts⟩ (c_X12_isRow l D cI cQ cM cR p0) (va_cwS 1 hts (gS q_1483 q_1484 q_76 q_1485) rfl rfl rfl (by decide +kernel) ⟨Nat.le_of_ble_eq_true rfl, Nat.le_of_ble_eq_true rfl⟩) ⟨PP_blind, PP_of hK (hP.sub [] rfl)⟩ rfl rfl hl.1 rfl (lv_room (Nat.le_of_ble_eq_true rfl)) dX12_copy_1 ⟨Nat.le_of_ble_eq_true rfl, Nat.le_of_ble_eq_true rfl⟩) ?_
    refine lv_cst (v := 0) (rowi_lt h) ?_
    refine lv_if_eq (tgt := 14) hx hb dX12_copy_4 (by decide) (fun _ => ?_) (fun c9 => absurd (by decide) c9)
    refine lv_iconst (v := (-1)) hx hb dX12_copy_14 (by decide) ?_
    exact W.iret hx hb hr (fun t ht hW => ⟨by rw [sp_two, if_pos (rowi_lt h)], ht⟩) (fun q hq => absurd hq List.not_mem_nil) dX12_copy_15
  · skip
    refine lv_iload_n hx hb dX12_copy_0 rfl (lv_at hl 1 rfl) ?_
    refine p_call (va_runS (As := [.int p0]) (rest := []) ⟨hx, hb, hml, hown, hts⟩ (c_X12_isRow l D cI cQ cM cR p0) (va_cwS 1 hts (gS q_1483 q_1484 q_76 q_1485) rfl rfl rfl (by decide +kernel) ⟨Nat.le_of_ble_eq_true rfl, Nat.le_of_ble_eq_true rfl⟩) ⟨PP_blind, PP_of hK (hP.sub [] rfl)⟩ rfl rfl hl.1 rfl (lv_room (Nat.le_of_ble_eq_true rfl)) dX12_copy_1 ⟨Nat.le_of_ble_eq_true rfl, Nat.le_of_ble_eq_true rfl⟩) ?_
    refine lv_cst (v := 0) (rowi_ge h) ?_
    refine lv_if_eq (tgt := 14) hx hb dX12_copy_4 (by decide) (fun _ => ?_) (fun c9 => absurd (by decide) c9)
    refine lv_iconst (v := (-1)) hx hb dX12_copy_14 (by decide) ?_
    exact W.iret hx hb hr (fun t ht hW => ⟨by rw [sp_two, if_pos (rowi_ge h)], ht⟩) (fun q hq => absurd hq List.not_mem_nil) dX12_copy_15
  · skip
    refine lv_iload_n hx hb dX12_copy_0 rfl (lv_at hl 1 rfl) ?_
    refine p_call (va_runS (As := [.int 0]) (rest := []) ⟨hx, hb, hml, hown, hts⟩ (c_X12_isRow l D cI cQ cM cR 0) (va_cwS 1 hts (gS q_1483 q_1484 q_76 q_1485) rfl rfl rfl (by decide +kernel) ⟨Nat.le_of_ble_eq_true rfl, Nat.le_of_ble_eq_true rfl⟩) ⟨PP_blind, PP_of hK (hP.sub [] rfl)⟩ rfl rfl hl.1 rfl (lv_room (Nat.le_of_ble_eq_true rfl)) dX12_copy_1 ⟨Nat.le_of_ble_eq_true rfl, Nat.le_of_ble_eq_true rfl⟩) ?_
    refine lv_cst (v := 1) (by decide) ?_
    refine lv_if_eq (tgt := 14) hx hb dX12_copy_4 (by decide) (fun c9 => absurd c9 (by decide)) (fun _ => ?_)
    refine lv_iload_n hx hb dX12_copy_7 rfl (lv_at hl 2 rfl) ?_
    refine p_call (va_runS (As := [.int p1]) (rest := []) ⟨hx, hb, hml, hown, hts⟩ (c_X12_isRow l D cI cQ cM cR p1) (va_cwS 1 hts (gS q_1483 q_1484 q_76 q_1485) rfl rfl rfl (by decide +kernel) ⟨Nat.le_of_ble_eq_true rfl, Nat.le_of_ble_eq_true rfl⟩) ⟨PP_blind, PP_of hK (hP.sub [] rfl)⟩ rfl rfl hl.1 rfl (lv_room (Nat.le_of_ble_eq_true rfl)) dX12_copy_8 ⟨Nat.le_of_ble_eq_true rfl, Nat.le_of_ble_eq_true rfl⟩) ?_
    refine lv_if_ne (tgt := 16) hx hb dX12_copy_11 (by decide) (fun c_1 => ?_) (fun c_1 => ?_)
    · refine lv_aload_n hx hb dX12_copy_16 rfl (lv_at hl 0 rfl) ?_
      refine va_get (D := D) (ci := 12) (v := .ref growMany) (C := RX12) (T := TX12) (N := 63) hx hb hts in_X12 hown hK hP 0 rfl rfl 57 (by decide) (hts _ q_1077) (fun _ h9 => h9) rfl dX12_copy_17 ?_
      refine lv_iload_n hx hb dX12_copy_20 rfl (lv_at hl 1 rfl) ?_
      refine va_iald hx hb hK hP 1 0 rfl rfl (i := 0) (by unfold vp_in; decide) dX12_copy_21 ?_
      refine lv_cst (v := 0) (by first | rfl | decide) ?_
      refine lv_if_eq (tgt := 34) hx hb dX12_copy_22 (by decide) (fun _ => ?_) (fun c9 => absurd (by decide) c9)
      refine lv_bipush (v := (-3)) hx hb dX12_copy_34 (by decide) ?_
      exact W.iret hx hb hr (fun t ht hW => ⟨by first | rfl | decide | (simp only [sp_two, c_1, ↓reduceIte, not_true_eq_false, not_false_eq_true, and_self]; done) | (simp only [sp_two, c_1, ↓reduceIte, not_true_eq_false, not_false_eq_true, and_self]; rfl) | (simp [sp_two, c_1]; done) | (simp_all [sp_two]; done), ht⟩) (fun q hq => absurd hq List.not_mem_nil) dX12_copy_36
    · refine lv_iconst (v := (-1)) hx hb dX12_copy_14 (by decide) ?_
      exact W.iret hx hb hr (fun t ht hW => ⟨by first | rfl | decide | (simp only [sp_two, c_1, ↓reduceIte, not_true_eq_false, not_false_eq_true, and_self]; done) | (simp only [sp_two, c_1, ↓reduceIte, not_true_eq_false, not_false_eq_true, and_self]; rfl) | (simp [sp_two, c_1]; done) | (simp_all [sp_two]; done), ht⟩) (fun q hq => absurd hq List.not_mem_nil) dX12_copy_15
  · skip
    refine lv_iload_n hx hb dX12_copy_0 rfl (lv_at hl 1 rfl) ?_
    refine p_call (va_runS (As := [.int 1]) (rest := []) ⟨hx, hb, hml, hown, hts⟩ (c_X12_isRow l D cI cQ cM cR 1) (va_cwS 1 hts (gS q_1483 q_1484 q_76 q_1485) rfl rfl rfl (by decide +kernel) ⟨Nat.le_of_ble_eq_true rfl, Nat.le_of_ble_eq_true rfl⟩) ⟨PP_blind, PP_of hK (hP.sub [] rfl)⟩ rfl rfl hl.1 rfl (lv_room (Nat.le_of_ble_eq_true rfl)) dX12_copy_1 ⟨Nat.le_of_ble_eq_true rfl, Nat.le_of_ble_eq_true rfl⟩) ?_
    refine lv_cst (v := 1) (by decide) ?_
    refine lv_if_eq (tgt := 14) hx hb dX12_copy_4 (by decide) (fun c9 => absurd c9 (by decide)) (fun _ => ?_)
    refine lv_iload_n hx hb dX12_copy_7 rfl (lv_at hl 2 rfl) ?_
    refine p_call (va_runS (As := [.int p1]) (rest := []) ⟨hx, hb, hml, hown, hts⟩ (c_X12_isRow l D cI cQ cM cR p1) (va_cwS 1 hts (gS q_1483 q_1484 q_76 q_1485) rfl rfl rfl (by decide +kernel) ⟨Nat.le_of_ble_eq_true rfl, Nat.le_of_ble_eq_true rfl⟩) ⟨PP_blind, PP_of hK (hP.sub [] rfl)⟩ rfl rfl hl.1 rfl (lv_room (Nat.le_of_ble_eq_true rfl)) dX12_copy_8 ⟨Nat.le_of_ble_eq_true rfl, Nat.le_of_ble_eq_true rfl⟩) ?_
    refine lv_if_ne (tgt := 16) hx hb dX12_copy_11 (by decide) (fun c_1 => ?_) (fun c_1 => ?_)
    · refine lv_aload_n hx hb dX12_copy_16 rfl (lv_at hl 0 rfl) ?_
      refine va_get (D := D) (ci := 12) (v := .ref growMany) (C := RX12) (T := TX12) (N := 63) hx hb hts in_X12 hown hK hP 0 rfl rfl 57 (by decide) (hts _ q_1077) (fun _ h9 => h9) rfl dX12_copy_17 ?_
      refine lv_iload_n hx hb dX12_copy_20 rfl (lv_at hl 1 rfl) ?_
      refine va_iald hx hb hK hP 1 0 rfl rfl (i := 1) (by unfold vp_in; decide) dX12_copy_21 ?_
      refine lv_cst (v := 0) (by first | rfl | decide) ?_
      refine lv_if_eq (tgt := 34) hx hb dX12_copy_22 (by decide) (fun _ => ?_) (fun c9 => absurd (by decide) c9)
      refine lv_bipush (v := (-3)) hx hb dX12_copy_34 (by decide) ?_
      exact W.iret hx hb hr (fun t ht hW => ⟨by first | rfl | decide | (simp only [sp_two, c_1, ↓reduceIte, not_true_eq_false, not_false_eq_true, and_self]; done) | (simp only [sp_two, c_1, ↓reduceIte, not_true_eq_false, not_false_eq_true, and_self]; rfl) | (simp [sp_two, c_1]; done) | (simp_all [sp_two]; done), ht⟩) (fun q hq => absurd hq List.not_mem_nil) dX12_copy_36
    · refine lv_iconst (v := (-1)) hx hb dX12_copy_14 (by decide) ?_
      exact W.iret hx hb hr (fun t ht hW => ⟨by first | rfl | decide | (simp only [sp_two, c_1, ↓reduceIte, not_true_eq_false, not_false_eq_true, and_self]; done) | (simp only [sp_two, c_1, ↓reduceIte, not_true_eq_false, not_false_eq_true, and_self]; rfl) | (simp [sp_two, c_1]; done) | (simp_all [sp_two]; done), ht⟩) (fun q hq => absurd hq List.not_mem_nil) dX12_copy_15
  · skip
    refine lv_iload_n hx hb dX12_copy_0 rfl (lv_at hl 1 rfl) ?_
    refine p_call (va_runS (As := [.int 2]) (rest := []) ⟨hx, hb, hml, hown, hts⟩ (c_X12_isRow l D cI cQ cM cR 2) (va_cwS 1 hts (gS q_1483 q_1484 q_76 q_1485) rfl rfl rfl (by decide +kernel) ⟨Nat.le_of_ble_eq_true rfl, Nat.le_of_ble_eq_true rfl⟩) ⟨PP_blind, PP_of hK (hP.sub [] rfl)⟩ rfl rfl hl.1 rfl (lv_room (Nat.le_of_ble_eq_true rfl)) dX12_copy_1 ⟨Nat.le_of_ble_eq_true rfl, Nat.le_of_ble_eq_true rfl⟩) ?_
    refine lv_cst (v := 1) (by decide) ?_
    refine lv_if_eq (tgt := 14) hx hb dX12_copy_4 (by decide) (fun c9 => absurd c9 (by decide)) (fun _ => ?_)
    refine lv_iload_n hx hb dX12_copy_7 rfl (lv_at hl 2 rfl) ?_
    refine p_call (va_runS (As := [.int p1]) (rest := []) ⟨hx, hb, hml, hown, hts⟩ (c_X12_isRow l D cI cQ cM cR p1) (va_cwS 1 hts (gS q_1483 q_1484 q_76 q_1485) rfl rfl rfl (by decide +kernel) ⟨Nat.le_of_ble_eq_true rfl, Nat.le_of_ble_eq_true rfl⟩) ⟨PP_blind, PP_of hK (hP.sub [] rfl)⟩ rfl rfl hl.1 rfl (lv_room (Nat.le_of_ble_eq_true rfl)) dX12_copy_8 ⟨Nat.le_of_ble_eq_true rfl, Nat.le_of_ble_eq_true rfl⟩) ?_
    refine lv_if_ne (tgt := 16) hx hb dX12_copy_11 (by decide) (fun c_1 => ?_) (fun c_1 => ?_)
    · refine lv_aload_n hx hb dX12_copy_16 rfl (lv_at hl 0 rfl) ?_
      refine va_get (D := D) (ci := 12) (v := .ref growMany) (C := RX12) (T := TX12) (N := 63) hx hb hts in_X12 hown hK hP 0 rfl rfl 57 (by decide) (hts _ q_1077) (fun _ h9 => h9) rfl dX12_copy_17 ?_
      refine lv_iload_n hx hb dX12_copy_20 rfl (lv_at hl 1 rfl) ?_
      refine va_iald hx hb hK hP 1 0 rfl rfl (i := 2) (by unfold vp_in; decide) dX12_copy_21 ?_
      refine lv_cst (v := 0) (by first | rfl | decide) ?_
      refine lv_if_eq (tgt := 34) hx hb dX12_copy_22 (by decide) (fun _ => ?_) (fun c9 => absurd (by decide) c9)
      refine lv_bipush (v := (-3)) hx hb dX12_copy_34 (by decide) ?_
      exact W.iret hx hb hr (fun t ht hW => ⟨by first | rfl | decide | (simp only [sp_two, c_1, ↓reduceIte, not_true_eq_false, not_false_eq_true, and_self]; done) | (simp only [sp_two, c_1, ↓reduceIte, not_true_eq_false, not_false_eq_true, and_self]; rfl) | (simp [sp_two, c_1]; done) | (simp_all [sp_two]; done), ht⟩) (fun q hq => absurd hq List.not_mem_nil) dX12_copy_36
    · refine lv_iconst (v := (-1)) hx hb dX12_copy_14 (by decide) ?_
      exact W.iret hx hb hr (fun t ht hW => ⟨by first | rfl | decide | (simp only [sp_two, c_1, ↓reduceIte, not_true_eq_false, not_false_eq_true, and_self]; done) | (simp only [sp_two, c_1, ↓reduceIte, not_true_eq_false, not_false_eq_true, and_self]; rfl) | (simp [sp_two, c_1]; done) | (simp_all [sp_two]; done), ht⟩) (fun q hq => absurd hq List.not_mem_nil) dX12_copy_15
  · skip
    refine lv_iload_n hx hb dX12_copy_0 rfl (lv_at hl 1 rfl) ?_
    refine p_call (va_runS (As := [.int 3]) (rest := []) ⟨hx, hb, hml, hown, hts⟩ (c_X12_isRow l D cI cQ cM cR 3) (va_cwS 1 hts (gS q_1483 q_1484 q_76 q_1485) rfl rfl rfl (by decide +kernel) ⟨Nat.le_of_ble_eq_true rfl, Nat.le_of_ble_eq_true rfl⟩) ⟨PP_blind, PP_of hK (hP.sub [] rfl)⟩ rfl rfl hl.1 rfl (lv_room (Nat.le_of_ble_eq_true rfl)) dX12_copy_1 ⟨Nat.le_of_ble_eq_true rfl, Nat.le_of_ble_eq_true rfl⟩) ?_
    refine lv_cst (v := 1) (by decide) ?_
    refine lv_if_eq (tgt := 14) hx hb dX12_copy_4 (by decide) (fun c9 => absurd c9 (by decide)) (fun _ => ?_)
    refine lv_iload_n hx hb dX12_copy_7 rfl (lv_at hl 2 rfl) ?_
    refine p_call (va_runS (As := [.int p1]) (rest := []) ⟨hx, hb, hml, hown, hts⟩ (c_X12_isRow l D cI cQ cM cR p1) (va_cwS 1 hts (gS q_1483 q_1484 q_76 q_1485) rfl rfl rfl (by decide +kernel) ⟨Nat.le_of_ble_eq_true rfl, Nat.le_of_ble_eq_true rfl⟩) ⟨PP_blind, PP_of hK (hP.sub [] rfl)⟩ rfl rfl hl.1 rfl (lv_room (Nat.le_of_ble_eq_true rfl)) dX12_copy_8 ⟨Nat.le_of_ble_eq_true rfl, Nat.le_of_ble_eq_true rfl⟩) ?_
    refine lv_if_ne (tgt := 16) hx hb dX12_copy_11 (by decide) (fun c_1 => ?_) (fun c_1 => ?_)
    · refine lv_aload_n hx hb dX12_copy_16 rfl (lv_at hl 0 rfl) ?_
      refine va_get (D := D) (ci := 12) (v := .ref growMany) (C := RX12) (T := TX12) (N := 63) hx hb hts in_X12 hown hK hP 0 rfl rfl 57 (by decide) (hts _ q_1077) (fun _ h9 => h9) rfl dX12_copy_17 ?_
      refine lv_iload_n hx hb dX12_copy_20 rfl (lv_at hl 1 rfl) ?_
      refine va_iald hx hb hK hP 1 0 rfl rfl (i := 3) (by unfold vp_in; decide) dX12_copy_21 ?_
      refine lv_cst (v := 0) (by first | rfl | decide) ?_
      refine lv_if_eq (tgt := 34) hx hb dX12_copy_22 (by decide) (fun _ => ?_) (fun c9 => absurd (by decide) c9)
      refine lv_bipush (v := (-3)) hx hb dX12_copy_34 (by decide) ?_
      exact W.iret hx hb hr (fun t ht hW => ⟨by first | rfl | decide | (simp only [sp_two, c_1, ↓reduceIte, not_true_eq_false, not_false_eq_true, and_self]; done) | (simp only [sp_two, c_1, ↓reduceIte, not_true_eq_false, not_false_eq_true, and_self]; rfl) | (simp [sp_two, c_1]; done) | (simp_all [sp_two]; done), ht⟩) (fun q hq => absurd hq List.not_mem_nil) dX12_copy_36
    · refine lv_iconst (v := (-1)) hx hb dX12_copy_14 (by decide) ?_
      exact W.iret hx hb hr (fun t ht hW => ⟨by first | rfl | decide | (simp only [sp_two, c_1, ↓reduceIte, not_true_eq_false, not_false_eq_true, and_self]; done) | (simp only [sp_two, c_1, ↓reduceIte, not_true_eq_false, not_false_eq_true, and_self]; rfl) | (simp [sp_two, c_1]; done) | (simp_all [sp_two]; done), ht⟩) (fun q hq => absurd hq List.not_mem_nil) dX12_copy_15
theorem dX12_again_0 : decode cX12_again 0 = .ok (.iload_n 1, 1) := by decide +kernel
theorem dX12_again_1 : decode cX12_again 1 = .ok (.invokestatic 356, 3) := by decide +kernel
theorem dX12_again_4 : decode cX12_again 4 = .ok (.ifCond .eq 10, 3) := by decide +kernel
theorem dX12_again_7 : decode cX12_again 7 = .ok (.iload_n 2, 1) := by decide +kernel
theorem dX12_again_8 : decode cX12_again 8 = .ok (.invokestatic 356, 3) := by decide +kernel
theorem dX12_again_11 : decode cX12_again 11 = .ok (.ifCond .ne 5, 3) := by decide +kernel
theorem dX12_again_14 : decode cX12_again 14 = .ok (.iconst (-1), 1) := by decide +kernel
theorem dX12_again_15 : decode cX12_again 15 = .ok (.ireturn, 1) := by decide +kernel
theorem dX12_again_16 : decode cX12_again 16 = .ok (.aload_n 0, 1) := by decide +kernel
theorem dX12_again_17 : decode cX12_again 17 = .ok (.getfield 106, 3) := by decide +kernel
theorem dX12_again_20 : decode cX12_again 20 = .ok (.iload_n 1, 1) := by decide +kernel
theorem dX12_again_21 : decode cX12_again 21 = .ok (.iaload, 1) := by decide +kernel
theorem dX12_again_22 : decode cX12_again 22 = .ok (.ifCond .ne 6, 3) := by decide +kernel
theorem dX12_again_25 : decode cX12_again 25 = .ok (.bipush (-3), 2) := by decide +kernel
theorem dX12_again_27 : decode cX12_again 27 = .ok (.ireturn, 1) := by decide +kernel
set_option maxHeartbeats 4000000 in
set_option maxRecDepth 100000 in
theorem c_X12_again (l : Launch) (D : va_G) (cI cQ cM cR : ClassId) (m0 : Nat) (gweight : Nat) (gpresent : Nat) (gspeeches : Nat) (gbuffer : Nat) (gstate : Nat) (gplace : Nat) (gmover : Nat) (gpart : Nat) (gamended : Nat) (gmany : Nat) (gclause : Nat) (gfirstMany : Nat) (gfirstClause : Nat) (gresolution : Nat) (gmotion : Nat) (gaway : Nat) (gawayMany : Nat) (gawayOrder : Nat) (gtable : Nat) (gcommittee : Nat) (glone : Nat) (gentry : Nat) (gchange : Nat) (gyesBy : Nat) (gnoBy : Nat) (gdraft : Nat) (grow : Nat) (growMany : Nat) (growFloats : Nat) (gsaved : Nat) (p0 : Int32) (p1 : Int32) : Met l yX12_again (ws_ yX12_again cX12_again 4 (some .int)) ({ frames := 1, cells := 0, slots := 0, locals := 20 }) (PP D cI cQ cM cR [.ref m0, .int p0, .int p1] [(m0, .inr (12, [.ref gweight, .ref gpresent, .ref gspeeches, .int 0, .int 50, .int 0, .int 0, .ref gbuffer, .ref gstate, .ref gplace, .ref gmover, .ref gpart, .ref gamended, .ref gmany, .ref gclause, .ref gfirstMany, .ref gfirstClause, .int 0, .int 0, .int 0, .int (-1), .ref gresolution, .ref gmotion, .ref gaway, .ref gawayMany, .ref gawayOrder, .ref gtable, .ref gcommittee, .int 0, .int 0, .int 0, .int 0, .int 0, .int 0, .int 0, .int 0, .int (-5), .int 0, .int 0, .ref glone, .int 0, .ref gentry, .ref gchange, .int 0, .int (-1), .int 0, .int 0, .ref gyesBy, .ref gnoBy, .int 0, .int 0, .int 0, .int 0, .int 0, .int 0, .ref gdraft, .ref grow, .ref growMany, .ref growFloats, .ref gsaved, .int 0, .int 0, .int 0])), (growMany, .inl (cI, 4, .inl (fun _ => 0)))]) (QP (some (.int (sp_two p0 p1)))) 0 0 (fun _ => False) := by
  refine Met.ofW (cc := cX12_again) (maxL := 4) (ret := (some .int)) (by decide) rfl ?_
  intro p e s m args below meth c s₁ B hml hv
  obtain ⟨rfl, hP, hK⟩ := hv
  have hx := B.exec
  have hb := B.bytes
  have hr := B.returns
  have hts : ∀ w ∈ lw_all, w.before _ s = true := fun w h => atoms_spec (ws := (ws_ yX12_again cX12_again 4 (some .int))) B.pre w (List.mem_cons_of_mem _ h)
  have hown : s.vm.findClass RX12 = some m.cls := findClass_of_methodNamed B.named
  have hlocks := B.notSynchronized
  have hP : va_P D vwCl [(m0, .inr (12, [.ref gweight, .ref gpresent, .ref gspeeches, .int 0, .int 50, .int 0, .int 0, .ref gbuffer, .ref gstate, .ref gplace, .ref gmover, .ref gpart, .ref gamended, .ref gmany, .ref gclause, .ref gfirstMany, .ref gfirstClause, .int 0, .int 0, .int 0, .int (-1), .ref gresolution, .ref gmotion, .ref gaway, .ref gawayMany, .ref gawayOrder, .ref gtable, .ref gcommittee, .int 0, .int 0, .int 0, .int 0, .int 0, .int 0, .int 0, .int 0, .int (-5), .int 0, .int 0, .ref glone, .int 0, .ref gentry, .ref gchange, .int 0, .int (-1), .int 0, .int 0, .ref gyesBy, .ref gnoBy, .int 0, .int 0, .int 0, .int 0, .int 0, .int 0, .ref gdraft, .ref grow, .ref growMany, .ref growFloats, .ref gsaved, .int 0, .int 0, .int 0])), (growMany, .inl (cI, 4, .inl (fun _ => 0)))] s.heap := hP
  have hl := lv_entry ([.ref m0, .int p0, .int p1]) (n := 4) (Nat.le_of_ble_eq_true rfl)
  rw [lg_entry_eq]
  generalize (lg_sl ([.ref m0, .int p0, .int p1]) ++ List.replicate (4 - (lg_sl ([.ref m0, .int p0, .int p1])).length) Slot.unset).toArray = ls at hl ⊢
  have hl : lv_has ls 4 [(0, .ref m0), (1, .int p0), (2, .int p1)] := hl
  rcases row_split p0 with h | h | rfl | rfl | rfl | rfl
  · skip
    refine lv_iload_n hx hb dX12_again_0 rfl (lv_at hl 1 rfl) ?_
    refine p_call (va_runS (As := [.int p0]) (rest := []) ⟨hx, hb, hml, hown, hts⟩ (c_X12_isRow l D cI cQ cM cR p0) (va_cwS 1 hts (gS q_1483 q_1484 q_76 q_1485) rfl rfl rfl (by decide +kernel) ⟨Nat.le_of_ble_eq_true rfl, Nat.le_of_ble_eq_true rfl⟩) ⟨PP_blind, PP_of hK (hP.sub [] rfl)⟩ rfl rfl hl.1 rfl (lv_room (Nat.le_of_ble_eq_true rfl)) dX12_again_1 ⟨Nat.le_of_ble_eq_true rfl, Nat.le_of_ble_eq_true rfl⟩) ?_
    refine lv_cst (v := 0) (rowi_lt h) ?_
    refine lv_if_eq (tgt := 14) hx hb dX12_again_4 (by decide) (fun _ => ?_) (fun c9 => absurd (by decide) c9)
    refine lv_iconst (v := (-1)) hx hb dX12_again_14 (by decide) ?_
    exact W.iret hx hb hr (fun t ht hW => ⟨by rw [sp_two, if_pos (rowi_lt h)], ht⟩) (fun q hq => absurd hq List.not_mem_nil) dX12_again_15
  · skip
    refine lv_iload_n hx hb dX12_again_0 rfl (lv_at hl 1 rfl) ?_
    refine p_call (va_runS (As := [.int p0]) (rest := []) ⟨hx, hb, hml, hown, hts⟩ (c_X12_isRow l D cI cQ cM cR p0) (va_cwS 1 hts (gS q_1483 q_1484 q_76 q_1485) rfl rfl rfl (by decide +kernel) ⟨Nat.le_of_ble_eq_true rfl, Nat.le_of_ble_eq_true rfl⟩) ⟨PP_blind, PP_of hK (hP.sub [] rfl)⟩ rfl rfl hl.1 rfl (lv_room (Nat.le_of_ble_eq_true rfl)) dX12_again_1 ⟨Nat.le_of_ble_eq_true rfl, Nat.le_of_ble_eq_true rfl⟩) ?_
    refine lv_cst (v := 0) (rowi_ge h) ?_
    refine lv_if_eq (tgt := 14) hx hb dX12_again_4 (by decide) (fun _ => ?_) (fun c9 => absurd (by decide) c9)
    refine lv_iconst (v := (-1)) hx hb dX12_again_14 (by decide) ?_
    exact W.iret hx hb hr (fun t ht hW => ⟨by rw [sp_two, if_pos (rowi_ge h)], ht⟩) (fun q hq => absurd hq List.not_mem_nil) dX12_again_15
  · skip
    refine lv_iload_n hx hb dX12_again_0 rfl (lv_at hl 1 rfl) ?_
    refine p_call (va_runS (As := [.int 0]) (rest := []) ⟨hx, hb, hml, hown, hts⟩ (c_X12_isRow l D cI cQ cM cR 0) (va_cwS 1 hts (gS q_1483 q_1484 q_76 q_1485) rfl rfl rfl (by decide +kernel) ⟨Nat.le_of_ble_eq_true rfl, Nat.le_of_ble_eq_true rfl⟩) ⟨PP_blind, PP_of hK (hP.sub [] rfl)⟩ rfl rfl hl.1 rfl (lv_room (Nat.le_of_ble_eq_true rfl)) dX12_again_1 ⟨Nat.le_of_ble_eq_true rfl, Nat.le_of_ble_eq_true rfl⟩) ?_
    refine lv_cst (v := 1) (by decide) ?_
    refine lv_if_eq (tgt := 14) hx hb dX12_again_4 (by decide) (fun c9 => absurd c9 (by decide)) (fun _ => ?_)
    refine lv_iload_n hx hb dX12_again_7 rfl (lv_at hl 2 rfl) ?_
    refine p_call (va_runS (As := [.int p1]) (rest := []) ⟨hx, hb, hml, hown, hts⟩ (c_X12_isRow l D cI cQ cM cR p1) (va_cwS 1 hts (gS q_1483 q_1484 q_76 q_1485) rfl rfl rfl (by decide +kernel) ⟨Nat.le_of_ble_eq_true rfl, Nat.le_of_ble_eq_true rfl⟩) ⟨PP_blind, PP_of hK (hP.sub [] rfl)⟩ rfl rfl hl.1 rfl (lv_room (Nat.le_of_ble_eq_true rfl)) dX12_again_8 ⟨Nat.le_of_ble_eq_true rfl, Nat.le_of_ble_eq_true rfl⟩) ?_
    refine lv_if_ne (tgt := 16) hx hb dX12_again_11 (by decide) (fun c_1 => ?_) (fun c_1 => ?_)
    · refine lv_aload_n hx hb dX12_again_16 rfl (lv_at hl 0 rfl) ?_
      refine va_get (D := D) (ci := 12) (v := .ref growMany) (C := RX12) (T := TX12) (N := 63) hx hb hts in_X12 hown hK hP 0 rfl rfl 57 (by decide) (hts _ q_1077) (fun _ h9 => h9) rfl dX12_again_17 ?_
      refine lv_iload_n hx hb dX12_again_20 rfl (lv_at hl 1 rfl) ?_
      refine va_iald hx hb hK hP 1 0 rfl rfl (i := 0) (by unfold vp_in; decide) dX12_again_21 ?_
      refine lv_cst (v := 0) (by first | rfl | decide) ?_
      refine lv_if_ne (tgt := 28) hx hb dX12_again_22 (by decide) (fun c9 => absurd (by decide) c9) (fun _ => ?_)
      refine lv_bipush (v := (-3)) hx hb dX12_again_25 (by decide) ?_
      exact W.iret hx hb hr (fun t ht hW => ⟨by first | rfl | decide | (simp only [sp_two, c_1, ↓reduceIte, not_true_eq_false, not_false_eq_true, and_self]; done) | (simp only [sp_two, c_1, ↓reduceIte, not_true_eq_false, not_false_eq_true, and_self]; rfl) | (simp [sp_two, c_1]; done) | (simp_all [sp_two]; done), ht⟩) (fun q hq => absurd hq List.not_mem_nil) dX12_again_27
    · refine lv_iconst (v := (-1)) hx hb dX12_again_14 (by decide) ?_
      exact W.iret hx hb hr (fun t ht hW => ⟨by first | rfl | decide | (simp only [sp_two, c_1, ↓reduceIte, not_true_eq_false, not_false_eq_true, and_self]; done) | (simp only [sp_two, c_1, ↓reduceIte, not_true_eq_false, not_false_eq_true, and_self]; rfl) | (simp [sp_two, c_1]; done) | (simp_all [sp_two]; done), ht⟩) (fun q hq => absurd hq List.not_mem_nil) dX12_again_15
  · skip
    refine lv_iload_n hx hb dX12_again_0 rfl (lv_at hl 1 rfl) ?_
    refine p_call (va_runS (As := [.int 1]) (rest := []) ⟨hx, hb, hml, hown, hts⟩ (c_X12_isRow l D cI cQ cM cR 1) (va_cwS 1 hts (gS q_1483 q_1484 q_76 q_1485) rfl rfl rfl (by decide +kernel) ⟨Nat.le_of_ble_eq_true rfl, Nat.le_of_ble_eq_true rfl⟩) ⟨PP_blind, PP_of hK (hP.sub [] rfl)⟩ rfl rfl hl.1 rfl (lv_room (Nat.le_of_ble_eq_true rfl)) dX12_again_1 ⟨Nat.le_of_ble_eq_true rfl, Nat.le_of_ble_eq_true rfl⟩) ?_
    refine lv_cst (v := 1) (by decide) ?_
    refine lv_if_eq (tgt := 14) hx hb dX12_again_4 (by decide) (fun c9 => absurd c9 (by decide)) (fun _ => ?_)
    refine lv_iload_n hx hb dX12_again_7 rfl (lv_at hl 2 rfl) ?_
    refine p_call (va_runS (As := [.int p1]) (rest := []) ⟨hx, hb, hml, hown, hts⟩ (c_X12_isRow l D cI cQ cM cR p1) (va_cwS 1 hts (gS q_1483 q_1484 q_76 q_1485) rfl rfl rfl (by decide +kernel) ⟨Nat.le_of_ble_eq_true rfl, Nat.le_of_ble_eq_true rfl⟩) ⟨PP_blind, PP_of hK (hP.sub [] rfl)⟩ rfl rfl hl.1 rfl (lv_room (Nat.le_of_ble_eq_true rfl)) dX12_again_8 ⟨Nat.le_of_ble_eq_true rfl, Nat.le_of_ble_eq_true rfl⟩) ?_
    refine lv_if_ne (tgt := 16) hx hb dX12_again_11 (by decide) (fun c_1 => ?_) (fun c_1 => ?_)
    · refine lv_aload_n hx hb dX12_again_16 rfl (lv_at hl 0 rfl) ?_
      refine va_get (D := D) (ci := 12) (v := .ref growMany) (C := RX12) (T := TX12) (N := 63) hx hb hts in_X12 hown hK hP 0 rfl rfl 57 (by decide) (hts _ q_1077) (fun _ h9 => h9) rfl dX12_again_17 ?_
      refine lv_iload_n hx hb dX12_again_20 rfl (lv_at hl 1 rfl) ?_
      refine va_iald hx hb hK hP 1 0 rfl rfl (i := 1) (by unfold vp_in; decide) dX12_again_21 ?_
      refine lv_cst (v := 0) (by first | rfl | decide) ?_
      refine lv_if_ne (tgt := 28) hx hb dX12_again_22 (by decide) (fun c9 => absurd (by decide) c9) (fun _ => ?_)
      refine lv_bipush (v := (-3)) hx hb dX12_again_25 (by decide) ?_
      exact W.iret hx hb hr (fun t ht hW => ⟨by first | rfl | decide | (simp only [sp_two, c_1, ↓reduceIte, not_true_eq_false, not_false_eq_true, and_self]; done) | (simp only [sp_two, c_1, ↓reduceIte, not_true_eq_false, not_false_eq_true, and_self]; rfl) | (simp [sp_two, c_1]; done) | (simp_all [sp_two]; done), ht⟩) (fun q hq => absurd hq List.not_mem_nil) dX12_again_27
    · refine lv_iconst (v := (-1)) hx hb dX12_again_14 (by decide) ?_
      exact W.iret hx hb hr (fun t ht hW => ⟨by first | rfl | decide | (simp only [sp_two, c_1, ↓reduceIte, not_true_eq_false, not_false_eq_true, and_self]; done) | (simp only [sp_two, c_1, ↓reduceIte, not_true_eq_false, not_false_eq_true, and_self]; rfl) | (simp [sp_two, c_1]; done) | (simp_all [sp_two]; done), ht⟩) (fun q hq => absurd hq List.not_mem_nil) dX12_again_15
  · skip
    refine lv_iload_n hx hb dX12_again_0 rfl (lv_at hl 1 rfl) ?_
    refine p_call (va_runS (As := [.int 2]) (rest := []) ⟨hx, hb, hml, hown, hts⟩ (c_X12_isRow l D cI cQ cM cR 2) (va_cwS 1 hts (gS q_1483 q_1484 q_76 q_1485) rfl rfl rfl (by decide +kernel) ⟨Nat.le_of_ble_eq_true rfl, Nat.le_of_ble_eq_true rfl⟩) ⟨PP_blind, PP_of hK (hP.sub [] rfl)⟩ rfl rfl hl.1 rfl (lv_room (Nat.le_of_ble_eq_true rfl)) dX12_again_1 ⟨Nat.le_of_ble_eq_true rfl, Nat.le_of_ble_eq_true rfl⟩) ?_
    refine lv_cst (v := 1) (by decide) ?_
    refine lv_if_eq (tgt := 14) hx hb dX12_again_4 (by decide) (fun c9 => absurd c9 (by decide)) (fun _ => ?_)
    refine lv_iload_n hx hb dX12_again_7 rfl (lv_at hl 2 rfl) ?_
    refine p_call (va_runS (As := [.int p1]) (rest := []) ⟨hx, hb, hml, hown, hts⟩ (c_X12_isRow l D cI cQ cM cR p1) (va_cwS 1 hts (gS q_1483 q_1484 q_76 q_1485) rfl rfl rfl (by decide +kernel) ⟨Nat.le_of_ble_eq_true rfl, Nat.le_of_ble_eq_true rfl⟩) ⟨PP_blind, PP_of hK (hP.sub [] rfl)⟩ rfl rfl hl.1 rfl (lv_room (Nat.le_of_ble_eq_true rfl)) dX12_again_8 ⟨Nat.le_of_ble_eq_true rfl, Nat.le_of_ble_eq_true rfl⟩) ?_
    refine lv_if_ne (tgt := 16) hx hb dX12_again_11 (by decide) (fun c_1 => ?_) (fun c_1 => ?_)
    · refine lv_aload_n hx hb dX12_again_16 rfl (lv_at hl 0 rfl) ?_
      refine va_get (D := D) (ci := 12) (v := .ref growMany) (C := RX12) (T := TX12) (N := 63) hx hb hts in_X12 hown hK hP 0 rfl rfl 57 (by decide) (hts _ q_1077) (fun _ h9 => h9) rfl dX12_again_17 ?_
      refine lv_iload_n hx hb dX12_again_20 rfl (lv_at hl 1 rfl) ?_
      refine va_iald hx hb hK hP 1 0 rfl rfl (i := 2) (by unfold vp_in; decide) dX12_again_21 ?_
      refine lv_cst (v := 0) (by first | rfl | decide) ?_
      refine lv_if_ne (tgt := 28) hx hb dX12_again_22 (by decide) (fun c9 => absurd (by decide) c9) (fun _ => ?_)
      refine lv_bipush (v := (-3)) hx hb dX12_again_25 (by decide) ?_
      exact W.iret hx hb hr (fun t ht hW => ⟨by first | rfl | decide | (simp only [sp_two, c_1, ↓reduceIte, not_true_eq_false, not_false_eq_true, and_self]; done) | (simp only [sp_two, c_1, ↓reduceIte, not_true_eq_false, not_false_eq_true, and_self]; rfl) | (simp [sp_two, c_1]; done) | (simp_all [sp_two]; done), ht⟩) (fun q hq => absurd hq List.not_mem_nil) dX12_again_27
    · refine lv_iconst (v := (-1)) hx hb dX12_again_14 (by decide) ?_
      exact W.iret hx hb hr (fun t ht hW => ⟨by first | rfl | decide | (simp only [sp_two, c_1, ↓reduceIte, not_true_eq_false, not_false_eq_true, and_self]; done) | (simp only [sp_two, c_1, ↓reduceIte, not_true_eq_false, not_false_eq_true, and_self]; rfl) | (simp [sp_two, c_1]; done) | (simp_all [sp_two]; done), ht⟩) (fun q hq => absurd hq List.not_mem_nil) dX12_again_15
  · skip
    refine lv_iload_n hx hb dX12_again_0 rfl (lv_at hl 1 rfl) ?_
    refine p_call (va_runS (As := [.int 3]) (rest := []) ⟨hx, hb, hml, hown, hts⟩ (c_X12_isRow l D cI cQ cM cR 3) (va_cwS 1 hts (gS q_1483 q_1484 q_76 q_1485) rfl rfl rfl (by decide +kernel) ⟨Nat.le_of_ble_eq_true rfl, Nat.le_of_ble_eq_true rfl⟩) ⟨PP_blind, PP_of hK (hP.sub [] rfl)⟩ rfl rfl hl.1 rfl (lv_room (Nat.le_of_ble_eq_true rfl)) dX12_again_1 ⟨Nat.le_of_ble_eq_true rfl, Nat.le_of_ble_eq_true rfl⟩) ?_
    refine lv_cst (v := 1) (by decide) ?_
    refine lv_if_eq (tgt := 14) hx hb dX12_again_4 (by decide) (fun c9 => absurd c9 (by decide)) (fun _ => ?_)
    refine lv_iload_n hx hb dX12_again_7 rfl (lv_at hl 2 rfl) ?_
    refine p_call (va_runS (As := [.int p1]) (rest := []) ⟨hx, hb, hml, hown, hts⟩ (c_X12_isRow l D cI cQ cM cR p1) (va_cwS 1 hts (gS q_1483 q_1484 q_76 q_1485) rfl rfl rfl (by decide +kernel) ⟨Nat.le_of_ble_eq_true rfl, Nat.le_of_ble_eq_true rfl⟩) ⟨PP_blind, PP_of hK (hP.sub [] rfl)⟩ rfl rfl hl.1 rfl (lv_room (Nat.le_of_ble_eq_true rfl)) dX12_again_8 ⟨Nat.le_of_ble_eq_true rfl, Nat.le_of_ble_eq_true rfl⟩) ?_
    refine lv_if_ne (tgt := 16) hx hb dX12_again_11 (by decide) (fun c_1 => ?_) (fun c_1 => ?_)
    · refine lv_aload_n hx hb dX12_again_16 rfl (lv_at hl 0 rfl) ?_
      refine va_get (D := D) (ci := 12) (v := .ref growMany) (C := RX12) (T := TX12) (N := 63) hx hb hts in_X12 hown hK hP 0 rfl rfl 57 (by decide) (hts _ q_1077) (fun _ h9 => h9) rfl dX12_again_17 ?_
      refine lv_iload_n hx hb dX12_again_20 rfl (lv_at hl 1 rfl) ?_
      refine va_iald hx hb hK hP 1 0 rfl rfl (i := 3) (by unfold vp_in; decide) dX12_again_21 ?_
      refine lv_cst (v := 0) (by first | rfl | decide) ?_
      refine lv_if_ne (tgt := 28) hx hb dX12_again_22 (by decide) (fun c9 => absurd (by decide) c9) (fun _ => ?_)
      refine lv_bipush (v := (-3)) hx hb dX12_again_25 (by decide) ?_
      exact W.iret hx hb hr (fun t ht hW => ⟨by first | rfl | decide | (simp only [sp_two, c_1, ↓reduceIte, not_true_eq_false, not_false_eq_true, and_self]; done) | (simp only [sp_two, c_1, ↓reduceIte, not_true_eq_false, not_false_eq_true, and_self]; rfl) | (simp [sp_two, c_1]; done) | (simp_all [sp_two]; done), ht⟩) (fun q hq => absurd hq List.not_mem_nil) dX12_again_27
    · refine lv_iconst (v := (-1)) hx hb dX12_again_14 (by decide) ?_
      exact W.iret hx hb hr (fun t ht hW => ⟨by first | rfl | decide | (simp only [sp_two, c_1, ↓reduceIte, not_true_eq_false, not_false_eq_true, and_self]; done) | (simp only [sp_two, c_1, ↓reduceIte, not_true_eq_false, not_false_eq_true, and_self]; rfl) | (simp [sp_two, c_1]; done) | (simp_all [sp_two]; done), ht⟩) (fun q hq => absurd hq List.not_mem_nil) dX12_again_15
theorem dX12_element_0 : decode cX12_element 0 = .ok (.iload_n 1, 1) := by decide +kernel
theorem dX12_element_1 : decode cX12_element 1 = .ok (.invokestatic 356, 3) := by decide +kernel
theorem dX12_element_4 : decode cX12_element 4 = .ok (.ifCond .eq 34, 3) := by decide +kernel
theorem dX12_element_7 : decode cX12_element 7 = .ok (.iload_n 2, 1) := by decide +kernel
theorem dX12_element_8 : decode cX12_element 8 = .ok (.iconst 0, 1) := by decide +kernel
theorem dX12_element_9 : decode cX12_element 9 = .ok (.aload_n 0, 1) := by decide +kernel
theorem dX12_element_10 : decode cX12_element 10 = .ok (.getfield 106, 3) := by decide +kernel
theorem dX12_element_13 : decode cX12_element 13 = .ok (.iload_n 1, 1) := by decide +kernel
theorem dX12_element_14 : decode cX12_element 14 = .ok (.iaload, 1) := by decide +kernel
theorem dX12_element_15 : decode cX12_element 15 = .ok (.iconst 1, 1) := by decide +kernel
theorem dX12_element_16 : decode cX12_element 16 = .ok (.isub, 1) := by decide +kernel
theorem dX12_element_17 : decode cX12_element 17 = .ok (.invokestatic 130, 3) := by decide +kernel
theorem dX12_element_20 : decode cX12_element 20 = .ok (.ifCond .eq 18, 3) := by decide +kernel
theorem dX12_element_38 : decode cX12_element 38 = .ok (.ldc2_w 359, 3) := by decide +kernel
theorem dX12_element_41 : decode cX12_element 41 = .ok (.lreturn, 1) := by decide +kernel
set_option maxRecDepth 100000 in
theorem q_1498 : (.constantLong RX12 359 (-9223372036854775808)) ∈ lw_all := List.mem_filter.mpr ⟨List.mem_of_getElem? (i := 1498) (by decide +kernel), by decide +kernel⟩
set_option maxHeartbeats 4000000 in
set_option maxRecDepth 100000 in
theorem c_X12_element (l : Launch) (D : va_G) (cI cQ cM cR : ClassId) (m0 : Nat) (gweight : Nat) (gpresent : Nat) (gspeeches : Nat) (gbuffer : Nat) (gstate : Nat) (gplace : Nat) (gmover : Nat) (gpart : Nat) (gamended : Nat) (gmany : Nat) (gclause : Nat) (gfirstMany : Nat) (gfirstClause : Nat) (gresolution : Nat) (gmotion : Nat) (gaway : Nat) (gawayMany : Nat) (gawayOrder : Nat) (gtable : Nat) (gcommittee : Nat) (glone : Nat) (gentry : Nat) (gchange : Nat) (gyesBy : Nat) (gnoBy : Nat) (gdraft : Nat) (grow : Nat) (growMany : Nat) (growFloats : Nat) (gsaved : Nat) (p0 : Int32) (p1 : Int32) : Met l yX12_element (ws_ yX12_element cX12_element 3 (some .long)) ({ frames := 1, cells := 0, slots := 0, locals := 22 }) (PP D cI cQ cM cR [.ref m0, .int p0, .int p1] [(m0, .inr (12, [.ref gweight, .ref gpresent, .ref gspeeches, .int 0, .int 50, .int 0, .int 0, .ref gbuffer, .ref gstate, .ref gplace, .ref gmover, .ref gpart, .ref gamended, .ref gmany, .ref gclause, .ref gfirstMany, .ref gfirstClause, .int 0, .int 0, .int 0, .int (-1), .ref gresolution, .ref gmotion, .ref gaway, .ref gawayMany, .ref gawayOrder, .ref gtable, .ref gcommittee, .int 0, .int 0, .int 0, .int 0, .int 0, .int 0, .int 0, .int 0, .int (-5), .int 0, .int 0, .ref glone, .int 0, .ref gentry, .ref gchange, .int 0, .int (-1), .int 0, .int 0, .ref gyesBy, .ref gnoBy, .int 0, .int 0, .int 0, .int 0, .int 0, .int 0, .ref gdraft, .ref grow, .ref growMany, .ref growFloats, .ref gsaved, .int 0, .int 0, .int 0])), (growMany, .inl (cI, 4, .inl (fun _ => 0)))]) (QP (some (.long (-9223372036854775808)))) 0 0 (fun _ => False) := by
  refine Met.ofW (cc := cX12_element) (maxL := 3) (ret := (some .long)) (by decide) rfl ?_
  intro p e s m args below meth c s₁ B hml hv
  obtain ⟨rfl, hP, hK⟩ := hv
  have hx := B.exec
  have hb := B.bytes
  have hr := B.returns
  have hts : ∀ w ∈ lw_all, w.before _ s = true := fun w h => atoms_spec (ws := (ws_ yX12_element cX12_element 3 (some .long))) B.pre w (List.mem_cons_of_mem _ h)
  have hown : s.vm.findClass RX12 = some m.cls := findClass_of_methodNamed B.named
  have hlocks := B.notSynchronized
  have hP : va_P D vwCl [(m0, .inr (12, [.ref gweight, .ref gpresent, .ref gspeeches, .int 0, .int 50, .int 0, .int 0, .ref gbuffer, .ref gstate, .ref gplace, .ref gmover, .ref gpart, .ref gamended, .ref gmany, .ref gclause, .ref gfirstMany, .ref gfirstClause, .int 0, .int 0, .int 0, .int (-1), .ref gresolution, .ref gmotion, .ref gaway, .ref gawayMany, .ref gawayOrder, .ref gtable, .ref gcommittee, .int 0, .int 0, .int 0, .int 0, .int 0, .int 0, .int 0, .int 0, .int (-5), .int 0, .int 0, .ref glone, .int 0, .ref gentry, .ref gchange, .int 0, .int (-1), .int 0, .int 0, .ref gyesBy, .ref gnoBy, .int 0, .int 0, .int 0, .int 0, .int 0, .int 0, .ref gdraft, .ref grow, .ref growMany, .ref growFloats, .ref gsaved, .int 0, .int 0, .int 0])), (growMany, .inl (cI, 4, .inl (fun _ => 0)))] s.heap := hP
  have hl := lv_entry ([.ref m0, .int p0, .int p1]) (n := 3) (Nat.le_of_ble_eq_true rfl)
  rw [lg_entry_eq]
  generalize (lg_sl ([.ref m0, .int p0, .int p1]) ++ List.replicate (3 - (lg_sl ([.ref m0, .int p0, .int p1])).length) Slot.unset).toArray = ls at hl ⊢
  have hl : lv_has ls 3 [(0, .ref m0), (1, .int p0), (2, .int p1)] := hl
  rcases row_split p0 with h | h | rfl | rfl | rfl | rfl
  · skip
    refine lv_iload_n hx hb dX12_element_0 rfl (lv_at hl 1 rfl) ?_
    refine p_call (va_runS (As := [.int p0]) (rest := []) ⟨hx, hb, hml, hown, hts⟩ (c_X12_isRow l D cI cQ cM cR p0) (va_cwS 1 hts (gS q_1483 q_1484 q_76 q_1485) rfl rfl rfl (by decide +kernel) ⟨Nat.le_of_ble_eq_true rfl, Nat.le_of_ble_eq_true rfl⟩) ⟨PP_blind, PP_of hK (hP.sub [] rfl)⟩ rfl rfl hl.1 rfl (lv_room (Nat.le_of_ble_eq_true rfl)) dX12_element_1 ⟨Nat.le_of_ble_eq_true rfl, Nat.le_of_ble_eq_true rfl⟩) ?_
    refine lv_cst (v := 0) (rowi_lt h) ?_
    refine lv_if_eq (tgt := 38) hx hb dX12_element_4 (by decide) (fun _ => ?_) (fun c9 => absurd (by decide) c9)
    refine lv_ldc2 (v := (-9223372036854775808)) hx hb hown (hts _ q_1498) dX12_element_38 ?_
    exact W.lret hx hb hr (fun t ht hW => ⟨rfl, ht⟩) (fun q hq => absurd hq List.not_mem_nil) dX12_element_41
  · skip
    refine lv_iload_n hx hb dX12_element_0 rfl (lv_at hl 1 rfl) ?_
    refine p_call (va_runS (As := [.int p0]) (rest := []) ⟨hx, hb, hml, hown, hts⟩ (c_X12_isRow l D cI cQ cM cR p0) (va_cwS 1 hts (gS q_1483 q_1484 q_76 q_1485) rfl rfl rfl (by decide +kernel) ⟨Nat.le_of_ble_eq_true rfl, Nat.le_of_ble_eq_true rfl⟩) ⟨PP_blind, PP_of hK (hP.sub [] rfl)⟩ rfl rfl hl.1 rfl (lv_room (Nat.le_of_ble_eq_true rfl)) dX12_element_1 ⟨Nat.le_of_ble_eq_true rfl, Nat.le_of_ble_eq_true rfl⟩) ?_
    refine lv_cst (v := 0) (rowi_ge h) ?_
    refine lv_if_eq (tgt := 38) hx hb dX12_element_4 (by decide) (fun _ => ?_) (fun c9 => absurd (by decide) c9)
    refine lv_ldc2 (v := (-9223372036854775808)) hx hb hown (hts _ q_1498) dX12_element_38 ?_
    exact W.lret hx hb hr (fun t ht hW => ⟨rfl, ht⟩) (fun q hq => absurd hq List.not_mem_nil) dX12_element_41
  · skip
    refine lv_iload_n hx hb dX12_element_0 rfl (lv_at hl 1 rfl) ?_
    refine p_call (va_runS (As := [.int 0]) (rest := []) ⟨hx, hb, hml, hown, hts⟩ (c_X12_isRow l D cI cQ cM cR 0) (va_cwS 1 hts (gS q_1483 q_1484 q_76 q_1485) rfl rfl rfl (by decide +kernel) ⟨Nat.le_of_ble_eq_true rfl, Nat.le_of_ble_eq_true rfl⟩) ⟨PP_blind, PP_of hK (hP.sub [] rfl)⟩ rfl rfl hl.1 rfl (lv_room (Nat.le_of_ble_eq_true rfl)) dX12_element_1 ⟨Nat.le_of_ble_eq_true rfl, Nat.le_of_ble_eq_true rfl⟩) ?_
    refine lv_cst (v := 1) (by decide) ?_
    refine lv_if_eq (tgt := 38) hx hb dX12_element_4 (by decide) (fun c9 => absurd c9 (by decide)) (fun _ => ?_)
    refine lv_iload_n hx hb dX12_element_7 rfl (lv_at hl 2 rfl) ?_
    refine lv_iconst (v := 0) hx hb dX12_element_8 (by decide) ?_
    refine lv_aload_n hx hb dX12_element_9 rfl (lv_at hl 0 rfl) ?_
    refine va_get (D := D) (ci := 12) (v := .ref growMany) (C := RX12) (T := TX12) (N := 63) hx hb hts in_X12 hown hK hP 0 rfl rfl 57 (by decide) (hts _ q_1077) (fun _ h9 => h9) rfl dX12_element_10 ?_
    refine lv_iload_n hx hb dX12_element_13 rfl (lv_at hl 1 rfl) ?_
    refine va_iald hx hb hK hP 1 0 rfl rfl (i := 0) (by unfold vp_in; decide) dX12_element_14 ?_
    refine lv_cst (v := 0) (by first | rfl | decide) ?_
    refine lv_iconst (v := 1) hx hb dX12_element_15 (by decide) ?_
    refine lv_isub hx hb dX12_element_16 ?_
    refine lv_cst (v := (-1)) (by decide) ?_
    refine p_call (va_runS (As := [.int p1, .int 0, .int (-1)]) (rest := []) ⟨hx, hb, hml, hown, hts⟩ (c_X12_isBetween l D cI cQ cM cR p1 0 (-1)) (va_cwS 3 hts (gS q_1214 q_1215 q_76 q_1216) rfl rfl rfl (by decide +kernel) ⟨Nat.le_of_ble_eq_true rfl, Nat.le_of_ble_eq_true rfl⟩) ⟨PP_blind, PP_of hK (hP.sub [] rfl)⟩ rfl rfl hl.1 rfl (lv_room (Nat.le_of_ble_eq_true rfl)) dX12_element_17 ⟨Nat.le_of_ble_eq_true rfl, Nat.le_of_ble_eq_true rfl⟩) ?_
    refine lv_cst (v := 0) (btw_none p1) ?_
    refine lv_if_eq (tgt := 38) hx hb dX12_element_20 (by decide) (fun _ => ?_) (fun c9 => absurd (by decide) c9)
    refine lv_ldc2 (v := (-9223372036854775808)) hx hb hown (hts _ q_1498) dX12_element_38 ?_
    exact W.lret hx hb hr (fun t ht hW => ⟨rfl, ht⟩) (fun q hq => absurd hq List.not_mem_nil) dX12_element_41
  · skip
    refine lv_iload_n hx hb dX12_element_0 rfl (lv_at hl 1 rfl) ?_
    refine p_call (va_runS (As := [.int 1]) (rest := []) ⟨hx, hb, hml, hown, hts⟩ (c_X12_isRow l D cI cQ cM cR 1) (va_cwS 1 hts (gS q_1483 q_1484 q_76 q_1485) rfl rfl rfl (by decide +kernel) ⟨Nat.le_of_ble_eq_true rfl, Nat.le_of_ble_eq_true rfl⟩) ⟨PP_blind, PP_of hK (hP.sub [] rfl)⟩ rfl rfl hl.1 rfl (lv_room (Nat.le_of_ble_eq_true rfl)) dX12_element_1 ⟨Nat.le_of_ble_eq_true rfl, Nat.le_of_ble_eq_true rfl⟩) ?_
    refine lv_cst (v := 1) (by decide) ?_
    refine lv_if_eq (tgt := 38) hx hb dX12_element_4 (by decide) (fun c9 => absurd c9 (by decide)) (fun _ => ?_)
    refine lv_iload_n hx hb dX12_element_7 rfl (lv_at hl 2 rfl) ?_
    refine lv_iconst (v := 0) hx hb dX12_element_8 (by decide) ?_
    refine lv_aload_n hx hb dX12_element_9 rfl (lv_at hl 0 rfl) ?_
    refine va_get (D := D) (ci := 12) (v := .ref growMany) (C := RX12) (T := TX12) (N := 63) hx hb hts in_X12 hown hK hP 0 rfl rfl 57 (by decide) (hts _ q_1077) (fun _ h9 => h9) rfl dX12_element_10 ?_
    refine lv_iload_n hx hb dX12_element_13 rfl (lv_at hl 1 rfl) ?_
    refine va_iald hx hb hK hP 1 0 rfl rfl (i := 1) (by unfold vp_in; decide) dX12_element_14 ?_
    refine lv_cst (v := 0) (by first | rfl | decide) ?_
    refine lv_iconst (v := 1) hx hb dX12_element_15 (by decide) ?_
    refine lv_isub hx hb dX12_element_16 ?_
    refine lv_cst (v := (-1)) (by decide) ?_
    refine p_call (va_runS (As := [.int p1, .int 0, .int (-1)]) (rest := []) ⟨hx, hb, hml, hown, hts⟩ (c_X12_isBetween l D cI cQ cM cR p1 0 (-1)) (va_cwS 3 hts (gS q_1214 q_1215 q_76 q_1216) rfl rfl rfl (by decide +kernel) ⟨Nat.le_of_ble_eq_true rfl, Nat.le_of_ble_eq_true rfl⟩) ⟨PP_blind, PP_of hK (hP.sub [] rfl)⟩ rfl rfl hl.1 rfl (lv_room (Nat.le_of_ble_eq_true rfl)) dX12_element_17 ⟨Nat.le_of_ble_eq_true rfl, Nat.le_of_ble_eq_true rfl⟩) ?_
    refine lv_cst (v := 0) (btw_none p1) ?_
    refine lv_if_eq (tgt := 38) hx hb dX12_element_20 (by decide) (fun _ => ?_) (fun c9 => absurd (by decide) c9)
    refine lv_ldc2 (v := (-9223372036854775808)) hx hb hown (hts _ q_1498) dX12_element_38 ?_
    exact W.lret hx hb hr (fun t ht hW => ⟨rfl, ht⟩) (fun q hq => absurd hq List.not_mem_nil) dX12_element_41
  · skip
    refine lv_iload_n hx hb dX12_element_0 rfl (lv_at hl 1 rfl) ?_
    refine p_call (va_runS (As := [.int 2]) (rest := []) ⟨hx, hb, hml, hown, hts⟩ (c_X12_isRow l D cI cQ cM cR 2) (va_cwS 1 hts (gS q_1483 q_1484 q_76 q_1485) rfl rfl rfl (by decide +kernel) ⟨Nat.le_of_ble_eq_true rfl, Nat.le_of_ble_eq_true rfl⟩) ⟨PP_blind, PP_of hK (hP.sub [] rfl)⟩ rfl rfl hl.1 rfl (lv_room (Nat.le_of_ble_eq_true rfl)) dX12_element_1 ⟨Nat.le_of_ble_eq_true rfl, Nat.le_of_ble_eq_true rfl⟩) ?_
    refine lv_cst (v := 1) (by decide) ?_
    refine lv_if_eq (tgt := 38) hx hb dX12_element_4 (by decide) (fun c9 => absurd c9 (by decide)) (fun _ => ?_)
    refine lv_iload_n hx hb dX12_element_7 rfl (lv_at hl 2 rfl) ?_
    refine lv_iconst (v := 0) hx hb dX12_element_8 (by decide) ?_
    refine lv_aload_n hx hb dX12_element_9 rfl (lv_at hl 0 rfl) ?_
    refine va_get (D := D) (ci := 12) (v := .ref growMany) (C := RX12) (T := TX12) (N := 63) hx hb hts in_X12 hown hK hP 0 rfl rfl 57 (by decide) (hts _ q_1077) (fun _ h9 => h9) rfl dX12_element_10 ?_
    refine lv_iload_n hx hb dX12_element_13 rfl (lv_at hl 1 rfl) ?_
    refine va_iald hx hb hK hP 1 0 rfl rfl (i := 2) (by unfold vp_in; decide) dX12_element_14 ?_
    refine lv_cst (v := 0) (by first | rfl | decide) ?_
    refine lv_iconst (v := 1) hx hb dX12_element_15 (by decide) ?_
    refine lv_isub hx hb dX12_element_16 ?_
    refine lv_cst (v := (-1)) (by decide) ?_
    refine p_call (va_runS (As := [.int p1, .int 0, .int (-1)]) (rest := []) ⟨hx, hb, hml, hown, hts⟩ (c_X12_isBetween l D cI cQ cM cR p1 0 (-1)) (va_cwS 3 hts (gS q_1214 q_1215 q_76 q_1216) rfl rfl rfl (by decide +kernel) ⟨Nat.le_of_ble_eq_true rfl, Nat.le_of_ble_eq_true rfl⟩) ⟨PP_blind, PP_of hK (hP.sub [] rfl)⟩ rfl rfl hl.1 rfl (lv_room (Nat.le_of_ble_eq_true rfl)) dX12_element_17 ⟨Nat.le_of_ble_eq_true rfl, Nat.le_of_ble_eq_true rfl⟩) ?_
    refine lv_cst (v := 0) (btw_none p1) ?_
    refine lv_if_eq (tgt := 38) hx hb dX12_element_20 (by decide) (fun _ => ?_) (fun c9 => absurd (by decide) c9)
    refine lv_ldc2 (v := (-9223372036854775808)) hx hb hown (hts _ q_1498) dX12_element_38 ?_
    exact W.lret hx hb hr (fun t ht hW => ⟨rfl, ht⟩) (fun q hq => absurd hq List.not_mem_nil) dX12_element_41
  · skip
    refine lv_iload_n hx hb dX12_element_0 rfl (lv_at hl 1 rfl) ?_
    refine p_call (va_runS (As := [.int 3]) (rest := []) ⟨hx, hb, hml, hown, hts⟩ (c_X12_isRow l D cI cQ cM cR 3) (va_cwS 1 hts (gS q_1483 q_1484 q_76 q_1485) rfl rfl rfl (by decide +kernel) ⟨Nat.le_of_ble_eq_true rfl, Nat.le_of_ble_eq_true rfl⟩) ⟨PP_blind, PP_of hK (hP.sub [] rfl)⟩ rfl rfl hl.1 rfl (lv_room (Nat.le_of_ble_eq_true rfl)) dX12_element_1 ⟨Nat.le_of_ble_eq_true rfl, Nat.le_of_ble_eq_true rfl⟩) ?_
    refine lv_cst (v := 1) (by decide) ?_
    refine lv_if_eq (tgt := 38) hx hb dX12_element_4 (by decide) (fun c9 => absurd c9 (by decide)) (fun _ => ?_)
    refine lv_iload_n hx hb dX12_element_7 rfl (lv_at hl 2 rfl) ?_
    refine lv_iconst (v := 0) hx hb dX12_element_8 (by decide) ?_
    refine lv_aload_n hx hb dX12_element_9 rfl (lv_at hl 0 rfl) ?_
    refine va_get (D := D) (ci := 12) (v := .ref growMany) (C := RX12) (T := TX12) (N := 63) hx hb hts in_X12 hown hK hP 0 rfl rfl 57 (by decide) (hts _ q_1077) (fun _ h9 => h9) rfl dX12_element_10 ?_
    refine lv_iload_n hx hb dX12_element_13 rfl (lv_at hl 1 rfl) ?_
    refine va_iald hx hb hK hP 1 0 rfl rfl (i := 3) (by unfold vp_in; decide) dX12_element_14 ?_
    refine lv_cst (v := 0) (by first | rfl | decide) ?_
    refine lv_iconst (v := 1) hx hb dX12_element_15 (by decide) ?_
    refine lv_isub hx hb dX12_element_16 ?_
    refine lv_cst (v := (-1)) (by decide) ?_
    refine p_call (va_runS (As := [.int p1, .int 0, .int (-1)]) (rest := []) ⟨hx, hb, hml, hown, hts⟩ (c_X12_isBetween l D cI cQ cM cR p1 0 (-1)) (va_cwS 3 hts (gS q_1214 q_1215 q_76 q_1216) rfl rfl rfl (by decide +kernel) ⟨Nat.le_of_ble_eq_true rfl, Nat.le_of_ble_eq_true rfl⟩) ⟨PP_blind, PP_of hK (hP.sub [] rfl)⟩ rfl rfl hl.1 rfl (lv_room (Nat.le_of_ble_eq_true rfl)) dX12_element_17 ⟨Nat.le_of_ble_eq_true rfl, Nat.le_of_ble_eq_true rfl⟩) ?_
    refine lv_cst (v := 0) (btw_none p1) ?_
    refine lv_if_eq (tgt := 38) hx hb dX12_element_20 (by decide) (fun _ => ?_) (fun c9 => absurd (by decide) c9)
    refine lv_ldc2 (v := (-9223372036854775808)) hx hb hown (hts _ q_1498) dX12_element_38 ?_
    exact W.lret hx hb hr (fun t ht hW => ⟨rfl, ht⟩) (fun q hq => absurd hq List.not_mem_nil) dX12_element_41
