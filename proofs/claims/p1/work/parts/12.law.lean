/-! THE CLAIM OUT OF ONE WALK OF THE LAW'S BODY. Your part is whole_start (and what it stands on); all else here is the same for every law, but numbers. -/
def R_law : String := "AssemblyChairLaw"
def lw_P (b : Addr) (xs : List Int32) (args : Array Value) (s : State) : Prop := args = #[.ref b] ∧ s.IntsAt b xs ∧ xs.length ≤ 6 ∧ (Jvm.Cond.and given_1 narrow_1).before args s = true
/-- what a walk over the start with the record d0 says of its end, said of the start itself -/
theorem lw_closed {s t : State} {o : Outcome} {d0 : Drawn} {L : List Loc} {k n : Nat} (hd0 : s.drawn.sameBut d0 lw_cs) (hv : ∃ v, o = .returned v) (hW : (s.setDrawn d0).WarmedH t.vm) (hs : (s.setDrawn d0).sameButNew ({ t with vm := s.vm } : State) L k n) : State.butDraws s t lw_cs (fun t1 => Framed s o t1 L k n) := by
  have h2 : t.drawn = d0 := congrArg State.drawn hs.1
  refine ⟨⟨hv, hW, State.sameButNew.setDrawn hs s.drawn⟩, ?_, by decide⟩
  rw [h2]
  exact hd0
def lw_Q (_ : Array Value) (s : State) (o : Outcome) (t : State) : Prop := o = .returned (some (.int 1)) ∧ State.butDraws s t lw_cs (fun t1 => Framed s o t1 [] 600000 7302250)
def lw_Z (below : List Frame) (a : Array Value) (s : State) : State → Prop := fun t => ∃ o, t.status = .running ∧ Ended t below o ∧ lw_Q a s o t
/-- the law's own end, with 1 on the stack, nothing written that was there before, its room as the claim has it; d0: the record of draws at this point (at the entry s.drawn: begin with 'refine W.base ?_' and 'have hd0 := Drawn.sameBut.refl s.drawn lw_cs') -/
theorem lw_ret {p : Program} {l : Launch} {e : Env} {s : State} {m : MethodId} {below : List Frame} {meth : Method} {c : Code} {b : Nat} {d0 : Drawn} (hd0 : s.drawn.sameBut d0 lw_cs) (hx : p.tables.exec = Jvm.exec) (hb : c.code = code) (hr : meth.sig.returnType = ret) (hlocks : meth.locks = false) {pc : Nat} {H : Heap} {ls : Array Slot} (hdg : decode code pc = .ok (.ireturn, 1)) : W p l e room_1 (s.setDrawn d0) m #[Value.ref b] below meth c H [] 600000 7302250 (lw_Z below #[Value.ref b] s) (F0 m pc ls [.int 1]) := by
  intro T hT X
  obtain ⟨fs, hret, hrun, hended, hW, hframe⟩ := X.leave (v := some (.int 1)) (hlocks := hlocks) (fun h => by rw [hr] at h; cases h)
  have hmeth' : T.vm.method? m = some meth := X.method'
  refine ⟨T.setFrames fs, ?_, .returned (some (.int 1)), hrun, hended, rfl, lw_closed hd0 ⟨_, rfl⟩ hW hframe⟩
  jvm_step X.here [X.here.top, hx, hb, hdg, hmeth', hr, ret, narrow_b1]
  (try refine ⟨rfl, ?_⟩); (try refine ⟨rfl, ?_⟩)
  first | (intro acts; rw [hret _ acts rfl rfl rfl]) | rw [hret _ _ rfl rfl rfl]
  exact Steps.refl _
/-- what holds at the law's entry: the machine, the code, the tables' words (any of lw_tbl by 'hts w (by decide +kernel)'), the script of L ints xs at the cell b, what the Statement gives of the start (any of its parts by flat_of_before) -/
def lw_At (p : Program) (s : State) (m : MethodId) (meth : Method) (c : Code) (b L : Nat) (xs : Nat → Int32) : Prop :=
  p.tables.exec = Jvm.exec ∧ c.code = code ∧ meth.sig.returnType = ret ∧ c.maxLocals = 4 ∧ s.vm.findClass R_law = some m.cls ∧ (∀ w ∈ lw_tbl, w.before #[Value.ref b] s = true) ∧ va_X b L xs s s.heap ∧ b < s.heap.size ∧ meth.locks = false ∧ (Jvm.Cond.and given_1 narrow_1).before #[Value.ref b] s = true
-- ===== YOUR PART BEGINS =====
theorem dX11_undo_0 : decode cX11_undo 0 = .ok (.aload_n 0, 1) := by decide +kernel
theorem dX11_undo_1 : decode cX11_undo 1 = .ok (.getfield 419, 3) := by decide +kernel
theorem dX11_undo_4 : decode cX11_undo 4 = .ok (.ifCond .ne 6, 3) := by decide +kernel
theorem dX11_undo_7 : decode cX11_undo 7 = .ok (.bipush (-3), 2) := by decide +kernel
theorem dX11_undo_9 : decode cX11_undo 9 = .ok (.ireturn, 1) := by decide +kernel
set_option maxHeartbeats 4000000 in
set_option maxRecDepth 100000 in
theorem c_X11_undo (l : Launch) (D : va_G) (cI cQ cM cR : ClassId) (x0 : Nat) (nme : Nat) (sme : Nat) (xr : Nat) (xs : Nat) : Met l yX11_undo (ws_ yX11_undo cX11_undo 1 (some .int)) ({ frames := 0, cells := 0, slots := 0, locals := 0 }) (PP D cI cQ cM cR [.ref x0] [(x0, .inr (11, [.ref nme, .ref sme, .int 0, .ref xr, .ref xs]))]) (QP (some (.int (-3)))) 0 0 (fun _ => False) := by
  refine Met.ofW (cc := cX11_undo) (maxL := 1) (ret := (some .int)) (by decide) rfl ?_
  intro p e s m args below meth c s₁ B hml hv
  obtain ⟨rfl, hP, hK⟩ := hv
  have hx := B.exec
  have hb := B.bytes
  have hr := B.returns
  have hts : ∀ w ∈ lw_all, w.before _ s = true := fun w h => atoms_spec (ws := (ws_ yX11_undo cX11_undo 1 (some .int))) B.pre w (List.mem_cons_of_mem _ h)
  have hown : s.vm.findClass RX11 = some m.cls := findClass_of_methodNamed B.named
  have hlocks := B.notSynchronized
  have hP : va_P D vwCl [(x0, .inr (11, [.ref nme, .ref sme, .int 0, .ref xr, .ref xs]))] s.heap := hP
  have hl := lv_entry ([.ref x0]) (n := 1) (Nat.le_of_ble_eq_true rfl)
  rw [lg_entry_eq]
  generalize (lg_sl ([.ref x0]) ++ List.replicate (1 - (lg_sl ([.ref x0])).length) Slot.unset).toArray = ls at hl ⊢
  have hl : lv_has ls 1 [(0, .ref x0)] := hl
  refine lv_aload_n hx hb dX11_undo_0 rfl (lv_at hl 0 rfl) ?_
  refine va_get (D := D) (ci := 11) (v := .int 0) (C := RX11) (T := TX11) (N := 5) hx hb hts in_X11 hown hK hP 0 rfl rfl 2 (by decide) (hts _ q_414) (fun _ h9 => h9) rfl dX11_undo_1 ?_
  refine lv_if_ne (tgt := 10) hx hb dX11_undo_4 (by decide) (fun c9 => absurd (by decide) c9) (fun _ => ?_)
  refine lv_bipush (v := (-3)) hx hb dX11_undo_7 (by decide) ?_
  exact W.iret hx hb hr (fun t ht hW => ⟨rfl, ht⟩) (fun q hq => absurd hq List.not_mem_nil) dX11_undo_9
theorem dL_law_18 : decode cL_law 18 = .ok (.iload_n 3, 1) := by decide +kernel
theorem dL_law_19 : decode cL_law 19 = .ok (.aload_n 0, 1) := by decide +kernel
theorem dL_law_20 : decode cL_law 20 = .ok (.arraylength, 1) := by decide +kernel
theorem dL_law_21 : decode cL_law 21 = .ok (.bipush 6, 2) := by decide +kernel
theorem dL_law_23 : decode cL_law 23 = .ok (.isub, 1) := by decide +kernel
theorem dL_law_24 : decode cL_law 24 = .ok (.if_icmp .gt 957, 3) := by decide +kernel
theorem dL_law_975 : decode cL_law 975 = .ok (.iinc 3 6, 3) := by decide +kernel
theorem dL_law_978 : decode cL_law 978 = .ok (.goto (-960), 3) := by decide +kernel
theorem dL_law_981 : decode cL_law 981 = .ok (.iconst 1, 1) := by decide +kernel
theorem dL_law_982 : decode cL_law 982 = .ok (.ireturn, 1) := by decide +kernel
set_option maxHeartbeats 4000000 in
set_option maxRecDepth 100000 in
theorem law_end {p : Program} {e : Env} {s : State} {m : MethodId} {below : List Frame} {meth : Method} {c : Code} (l : Launch) {b : Nat} {zs : Nat → Int32} (C0 : lw_At p s m meth c b 6 zs) {D : va_G} {cI cQ cM cR : ClassId} (hK : va_K D vwCl (TY cI cQ cM cR) s) {A : Nat → Prop} (hAd : ∀ q : Nat, A q ↔ s.heap.size ≤ q) {x0 m0 : Nat} {H : Heap} {locs : List Loc} (hS : va_S A s.heap H locs) {ls : Array Slot} (hl : lv_has ls 4 [(3, .int 0), (2, .ref m0), (1, .ref x0), (0, .ref b)]) : W p l e room_1 s m #[Value.ref b] below meth c H locs 289 13007 (lw_Z below #[Value.ref b] s) (F0 m 975 ls []) := by
  obtain ⟨hx, hb, hr, hml, hown0, hts0, hX, hbl, hlocks, hgv⟩ := C0
  have hown : s.vm.findClass RL = some m.cls := hown0
  have hts : ∀ w ∈ lw_all, w.before _ s = true := fun w h => hts0 w (List.mem_filter.mp h).1
  have hA : ∀ q : Nat, s.heap.size ≤ q → A q := fun q h => (hAd q).mpr h
  have hbA : ¬ A b := fun h => absurd ((hAd b).mp h) (Nat.not_le.mpr hbl)
  refine lv_iinc (v := 6) (lv' := [(3, .int 6), (2, .ref m0), (1, .ref x0), (0, .ref b)]) hx hb dL_law_975 hl (k := 0) rfl (by decide) (by decide) rfl (fun ls hl => ?_)
  refine lv_goto (tgt := 18) hx hb dL_law_978 (by decide) ?_
  refine lv_iload_n hx hb dL_law_18 rfl (lv_at hl 0 rfl) ?_
  refine lv_aload_n hx hb dL_law_19 rfl (lv_at hl 3 rfl) ?_
  refine va_slen hx hb hX hbl hbA hS dL_law_20 ?_
  refine lv_bipush (v := 6) hx hb dL_law_21 (by decide) ?_
  refine lv_isub hx hb dL_law_23 ?_
  refine lv_cst (v := 0) (by decide) ?_
  refine lv_icmp_gt (tgt := 981) hx hb dL_law_24 (by decide) (fun _ => ?_) (fun c9 => absurd (by decide) c9)
  refine lv_iconst (v := 1) hx hb dL_law_981 (by decide) ?_
  refine va_forget (fun q hq => (hAd _).mp (hS.2.2 q hq)) ?_
  refine W.widen (k := 600000) (n := 7302250) (Nat.le_of_ble_eq_true rfl) (Nat.le_of_ble_eq_true rfl) ?_
  refine W.base ?_
  exact lw_ret (Drawn.sameBut.refl s.drawn lw_cs) hx hb hr hlocks dL_law_982
theorem dL_law_160 : decode cL_law 160 = .ok (.aload_n 1, 1) := by decide +kernel
theorem dL_law_161 : decode cL_law 161 = .ok (.aload_n 0, 1) := by decide +kernel
theorem dL_law_162 : decode cL_law 162 = .ok (.iload_n 3, 1) := by decide +kernel
theorem dL_law_163 : decode cL_law 163 = .ok (.iconst 1, 1) := by decide +kernel
theorem dL_law_164 : decode cL_law 164 = .ok (.iadd, 1) := by decide +kernel
theorem dL_law_165 : decode cL_law 165 = .ok (.iaload, 1) := by decide +kernel
theorem dL_law_166 : decode cL_law 166 = .ok (.invokevirtual 13, 3) := by decide +kernel
theorem dL_law_169 : decode cL_law 169 = .ok (.aload_n 2, 1) := by decide +kernel
theorem dL_law_170 : decode cL_law 170 = .ok (.aload_n 0, 1) := by decide +kernel
theorem dL_law_171 : decode cL_law 171 = .ok (.iload_n 3, 1) := by decide +kernel
theorem dL_law_172 : decode cL_law 172 = .ok (.iconst 1, 1) := by decide +kernel
theorem dL_law_173 : decode cL_law 173 = .ok (.iadd, 1) := by decide +kernel
theorem dL_law_174 : decode cL_law 174 = .ok (.iaload, 1) := by decide +kernel
theorem dL_law_175 : decode cL_law 175 = .ok (.invokevirtual 17, 3) := by decide +kernel
theorem dL_law_178 : decode cL_law 178 = .ok (.if_icmp .eq 797, 3) := by decide +kernel
set_option maxRecDepth 100000 in
theorem q_1213 : (.code yX12_delegate cX12_delegate 2 (some .int)) ∈ lw_all := List.mem_filter.mpr ⟨List.mem_of_getElem? (i := 1213) (rfl), by decide +kernel⟩
set_option maxRecDepth 100000 in
theorem q_431 : (.code yX11_delegate cX11_delegate 2 (some .int)) ∈ lw_all := List.mem_filter.mpr ⟨List.mem_of_getElem? (i := 431) (rfl), by decide +kernel⟩
set_option maxRecDepth 100000 in
theorem q_1211 : (.instanceMethod yX12_delegate) ∈ lw_all := List.mem_filter.mpr ⟨List.mem_of_getElem? (i := 1211) (by decide +kernel), by decide +kernel⟩
set_option maxRecDepth 100000 in
theorem q_429 : (.instanceMethod yX11_delegate) ∈ lw_all := List.mem_filter.mpr ⟨List.mem_of_getElem? (i := 429) (by decide +kernel), by decide +kernel⟩
set_option maxRecDepth 100000 in
theorem q_428 : (.methodLink RL 13 yX11_delegate) ∈ lw_all := List.mem_filter.mpr ⟨List.mem_of_getElem? (i := 428) (by decide +kernel), by decide +kernel⟩
set_option maxRecDepth 100000 in
theorem q_1210 : (.methodLink RL 17 yX12_delegate) ∈ lw_all := List.mem_filter.mpr ⟨List.mem_of_getElem? (i := 1210) (by decide +kernel), by decide +kernel⟩
set_option maxRecDepth 100000 in
theorem q_430 : (.selects RX11 yX11_delegate yX11_delegate) ∈ lw_all := List.mem_filter.mpr ⟨List.mem_of_getElem? (i := 430) (by decide +kernel), by decide +kernel⟩
set_option maxRecDepth 100000 in
theorem q_1212 : (.selects RX12 yX12_delegate yX12_delegate) ∈ lw_all := List.mem_filter.mpr ⟨List.mem_of_getElem? (i := 1212) (by decide +kernel), by decide +kernel⟩
set_option maxHeartbeats 4000000 in
set_option maxRecDepth 100000 in
theorem law_delegate {p : Program} {e : Env} {s : State} {m : MethodId} {below : List Frame} {meth : Method} {c : Code} (l : Launch) {b : Nat} {zs : Nat → Int32} (C0 : lw_At p s m meth c b 6 zs) {D : va_G} {cI cQ cM cR : ClassId} (hK : va_K D vwCl (TY cI cQ cM cR) s) {A : Nat → Prop} (hAd : ∀ q : Nat, A q ↔ s.heap.size ≤ q) {x0 nme sme xr xs nho ndk nsh nmi nba nde nbu nhw nhs m0 gweight gpresent gspeeches gbuffer gstate gplace gmover gpart gamended gmany gclause gfirstMany gfirstClause gresolution gmotion gaway gawayMany gawayOrder gtable gcommittee glone gentry gchange gyesBy gnoBy gdraft grow growMany growFloats gsaved : Nat} {H : Heap} {locs : List Loc} (hS : va_S A s.heap H locs) (hP : va_P D vwCl [(x0, .inr (11, [.ref nme, .ref sme, .int 0, .ref xr, .ref xs])), (nme, .inr (4, [.ref nho, .ref ndk, .ref nsh, .ref nmi, .ref nba, .ref nde, .ref nbu, .int 1, .int 0, .null, .int 0, .int 0, .int 0])), (nho, .inr (3, [.int 0, .int 50, .int 0, .ref nhw, .ref nhs])), (nhw, .inl (cI, 12, .inl (fun _ => 0))), (nhs, .inl (cI, 12, .inl (fun _ => 0))), (m0, .inr (12, [.ref gweight, .ref gpresent, .ref gspeeches, .int 0, .int 50, .int 0, .int 0, .ref gbuffer, .ref gstate, .ref gplace, .ref gmover, .ref gpart, .ref gamended, .ref gmany, .ref gclause, .ref gfirstMany, .ref gfirstClause, .int 0, .int 0, .int 0, .int (-1), .ref gresolution, .ref gmotion, .ref gaway, .ref gawayMany, .ref gawayOrder, .ref gtable, .ref gcommittee, .int 0, .int 0, .int 0, .int 0, .int 0, .int 0, .int 0, .int 0, .int (-5), .int 0, .int 0, .ref glone, .int 0, .ref gentry, .ref gchange, .int 0, .int (-1), .int 0, .int 0, .ref gyesBy, .ref gnoBy, .int 0, .int 0, .int 0, .int 0, .int 0, .int 0, .ref gdraft, .ref grow, .ref growMany, .ref growFloats, .ref gsaved, .int 0, .int 0, .int 0])), (gweight, .inl (cI, 12, .inl (fun _ => 0))), (gpresent, .inl (cI, 12, .inl (fun _ => 0))), (gspeeches, .inl (cI, 12, .inl (fun _ => 0)))] H) (hD : va_D A [(x0, .inr (11, [.ref nme, .ref sme, .int 0, .ref xr, .ref xs])), (nme, .inr (4, [.ref nho, .ref ndk, .ref nsh, .ref nmi, .ref nba, .ref nde, .ref nbu, .int 1, .int 0, .null, .int 0, .int 0, .int 0])), (nho, .inr (3, [.int 0, .int 50, .int 0, .ref nhw, .ref nhs])), (nhw, .inl (cI, 12, .inl (fun _ => 0))), (nhs, .inl (cI, 12, .inl (fun _ => 0))), (m0, .inr (12, [.ref gweight, .ref gpresent, .ref gspeeches, .int 0, .int 50, .int 0, .int 0, .ref gbuffer, .ref gstate, .ref gplace, .ref gmover, .ref gpart, .ref gamended, .ref gmany, .ref gclause, .ref gfirstMany, .ref gfirstClause, .int 0, .int 0, .int 0, .int (-1), .ref gresolution, .ref gmotion, .ref gaway, .ref gawayMany, .ref gawayOrder, .ref gtable, .ref gcommittee, .int 0, .int 0, .int 0, .int 0, .int 0, .int 0, .int 0, .int 0, .int (-5), .int 0, .int 0, .ref glone, .int 0, .ref gentry, .ref gchange, .int 0, .int (-1), .int 0, .int 0, .ref gyesBy, .ref gnoBy, .int 0, .int 0, .int 0, .int 0, .int 0, .int 0, .ref gdraft, .ref grow, .ref growMany, .ref growFloats, .ref gsaved, .int 0, .int 0, .int 0])), (gweight, .inl (cI, 12, .inl (fun _ => 0))), (gpresent, .inl (cI, 12, .inl (fun _ => 0))), (gspeeches, .inl (cI, 12, .inl (fun _ => 0)))]) {ls : Array Slot} (hl : lv_has ls 4 [(3, .int 0), (2, .ref m0), (1, .ref x0), (0, .ref b)]) : W p l e room_1 s m #[Value.ref b] below meth c H locs 289 13007 (lw_Z below #[Value.ref b] s) (F0 m 160 ls []) := by
  obtain ⟨hx, hb, hr, hml, hown0, hts0, hX, hbl, hlocks, hgv⟩ := id C0
  have hown : s.vm.findClass RL = some m.cls := hown0
  have hts : ∀ w ∈ lw_all, w.before _ s = true := fun w h => hts0 w (List.mem_filter.mp h).1
  have hA : ∀ q : Nat, s.heap.size ≤ q → A q := fun q h => (hAd q).mpr h
  have hbA : ¬ A b := fun h => absurd ((hAd b).mp h) (Nat.not_le.mpr hbl)
  refine lv_aload_n hx hb dL_law_160 rfl (lv_at hl 2 rfl) ?_
  refine lv_aload_n hx hb dL_law_161 rfl (lv_at hl 3 rfl) ?_
  refine lv_iload_n hx hb dL_law_162 rfl (lv_at hl 0 rfl) ?_
  refine lv_iconst (v := 1) hx hb dL_law_163 (by decide) ?_
  refine lv_iadd hx hb dL_law_164 ?_
  refine lv_cst (v := 1) (by decide) ?_
  refine va_sld hx hb hX hbl hbA hS (i := 1) (by unfold vp_in; decide) dL_law_165 ?_
  refine lv_cst (v := zs 1) rfl ?_
  have hFc := va_free (wc := [(x0, .inr (11, [.ref nme, .ref sme, .int 0, .ref xr, .ref xs])), (nme, .inr (4, [.ref nho, .ref ndk, .ref nsh, .ref nmi, .ref nba, .ref nde, .ref nbu, .int 1, .int 0, .null, .int 0, .int 0, .int 0])), (nho, .inr (3, [.int 0, .int 50, .int 0, .ref nhw, .ref nhs])), (nhw, .inl (cI, 12, .inl (fun _ => 0))), (nhs, .inl (cI, 12, .inl (fun _ => 0)))]) hD hS hA [0, 1, 2, 3, 4] rfl
  refine va_calli (va_runV (As := [.int (zs 1)]) (rest := []) ⟨hx, hb, hml, hown, hts⟩ (c_X11_delegate l D cI cQ cM cR x0 nme sme xr xs nho ndk nsh nmi nba nde nbu nhw nhs (zs 1) H.size) (cwV 1 hts (gV q_428 q_429 q_430 q_65 q_431) rfl rfl rfl (by decide +kernel) ⟨Nat.le_of_ble_eq_true rfl, Nat.le_of_ble_eq_true rfl⟩) ⟨PW_blind, va_recv hK hP (ci := 11) (q0 := 0) rfl rfl, PW_of hK (hP.sub [0, 1, 2, 3, 4] rfl) (hD.sub [0, 1, 2, 3, 4] (by decide) rfl)⟩ rfl rfl hl.1 rfl (lv_room (Nat.le_of_ble_eq_true rfl)) dL_law_166 ⟨Nat.le_of_ble_eq_true rfl, Nat.le_of_ble_eq_true rfl⟩) hS (fun q _ h => hFc q h) hFc (fun r_1 u t H1 locs ht hvm hw hB hz1 hk1 hS => ?_)
  have hP1 : va_P D vwCl [] H1 := va_P_nil
  have hD1 : va_D (va_A [(x0, .inr (11, [.ref nme, .ref sme, .int 0, .ref xr, .ref xs])), (nme, .inr (4, [.ref nho, .ref ndk, .ref nsh, .ref nmi, .ref nba, .ref nde, .ref nbu, .int 1, .int 0, .null, .int 0, .int 0, .int 0])), (nho, .inr (3, [.int 0, .int 50, .int 0, .ref nhw, .ref nhs])), (nhw, .inl (cI, 12, .inl (fun _ => 0))), (nhs, .inl (cI, 12, .inl (fun _ => 0)))] H.size) [] := va_D_nil
  obtain ⟨hP, hD⟩ := va_join (wr := [(m0, .inr (12, [.ref gweight, .ref gpresent, .ref gspeeches, .int 0, .int 50, .int 0, .int 0, .ref gbuffer, .ref gstate, .ref gplace, .ref gmover, .ref gpart, .ref gamended, .ref gmany, .ref gclause, .ref gfirstMany, .ref gfirstClause, .int 0, .int 0, .int 0, .int (-1), .ref gresolution, .ref gmotion, .ref gaway, .ref gawayMany, .ref gawayOrder, .ref gtable, .ref gcommittee, .int 0, .int 0, .int 0, .int 0, .int 0, .int 0, .int 0, .int 0, .int (-5), .int 0, .int 0, .ref glone, .int 0, .ref gentry, .ref gchange, .int 0, .int (-1), .int 0, .int 0, .ref gyesBy, .ref gnoBy, .int 0, .int 0, .int 0, .int 0, .int 0, .int 0, .ref gdraft, .ref grow, .ref growMany, .ref growFloats, .ref gsaved, .int 0, .int 0, .int 0])), (gweight, .inl (cI, 12, .inl (fun _ => 0))), (gpresent, .inl (cI, 12, .inl (fun _ => 0))), (gspeeches, .inl (cI, 12, .inl (fun _ => 0)))]) (w1 := []) hP hD [0, 1, 2, 3, 4] [5, 6, 7, 8] rfl rfl (by decide) (by decide) hk1 hFc hP1 hD1
  generalize H1 = H at hP hS ⊢
  have hP : va_P D vwCl [(m0, .inr (12, [.ref gweight, .ref gpresent, .ref gspeeches, .int 0, .int 50, .int 0, .int 0, .ref gbuffer, .ref gstate, .ref gplace, .ref gmover, .ref gpart, .ref gamended, .ref gmany, .ref gclause, .ref gfirstMany, .ref gfirstClause, .int 0, .int 0, .int 0, .int (-1), .ref gresolution, .ref gmotion, .ref gaway, .ref gawayMany, .ref gawayOrder, .ref gtable, .ref gcommittee, .int 0, .int 0, .int 0, .int 0, .int 0, .int 0, .int 0, .int 0, .int (-5), .int 0, .int 0, .ref glone, .int 0, .ref gentry, .ref gchange, .int 0, .int (-1), .int 0, .int 0, .ref gyesBy, .ref gnoBy, .int 0, .int 0, .int 0, .int 0, .int 0, .int 0, .ref gdraft, .ref grow, .ref growMany, .ref growFloats, .ref gsaved, .int 0, .int 0, .int 0])), (gweight, .inl (cI, 12, .inl (fun _ => 0))), (gpresent, .inl (cI, 12, .inl (fun _ => 0))), (gspeeches, .inl (cI, 12, .inl (fun _ => 0)))] H := hP
  have hD : va_D A [(m0, .inr (12, [.ref gweight, .ref gpresent, .ref gspeeches, .int 0, .int 50, .int 0, .int 0, .ref gbuffer, .ref gstate, .ref gplace, .ref gmover, .ref gpart, .ref gamended, .ref gmany, .ref gclause, .ref gfirstMany, .ref gfirstClause, .int 0, .int 0, .int 0, .int (-1), .ref gresolution, .ref gmotion, .ref gaway, .ref gawayMany, .ref gawayOrder, .ref gtable, .ref gcommittee, .int 0, .int 0, .int 0, .int 0, .int 0, .int 0, .int 0, .int 0, .int (-5), .int 0, .int 0, .ref glone, .int 0, .ref gentry, .ref gchange, .int 0, .int (-1), .int 0, .int 0, .ref gyesBy, .ref gnoBy, .int 0, .int 0, .int 0, .int 0, .int 0, .int 0, .ref gdraft, .ref grow, .ref growMany, .ref growFloats, .ref gsaved, .int 0, .int 0, .int 0])), (gweight, .inl (cI, 12, .inl (fun _ => 0))), (gpresent, .inl (cI, 12, .inl (fun _ => 0))), (gspeeches, .inl (cI, 12, .inl (fun _ => 0)))] := hD
  obtain rfl : r_1 = (sp_delegate (zs 1)) := hw
  refine lv_aload_n hx hb dL_law_169 rfl (lv_at hl 1 rfl) ?_
  refine lv_aload_n hx hb dL_law_170 rfl (lv_at hl 3 rfl) ?_
  refine lv_iload_n hx hb dL_law_171 rfl (lv_at hl 0 rfl) ?_
  refine lv_iconst (v := 1) hx hb dL_law_172 (by decide) ?_
  refine lv_iadd hx hb dL_law_173 ?_
  refine lv_cst (v := 1) (by decide) ?_
  refine va_sld hx hb hX hbl hbA hS (i := 1) (by unfold vp_in; decide) dL_law_174 ?_
  refine lv_cst (v := zs 1) rfl ?_
  have hFc := va_free (wc := [(m0, .inr (12, [.ref gweight, .ref gpresent, .ref gspeeches, .int 0, .int 50, .int 0, .int 0, .ref gbuffer, .ref gstate, .ref gplace, .ref gmover, .ref gpart, .ref gamended, .ref gmany, .ref gclause, .ref gfirstMany, .ref gfirstClause, .int 0, .int 0, .int 0, .int (-1), .ref gresolution, .ref gmotion, .ref gaway, .ref gawayMany, .ref gawayOrder, .ref gtable, .ref gcommittee, .int 0, .int 0, .int 0, .int 0, .int 0, .int 0, .int 0, .int 0, .int (-5), .int 0, .int 0, .ref glone, .int 0, .ref gentry, .ref gchange, .int 0, .int (-1), .int 0, .int 0, .ref gyesBy, .ref gnoBy, .int 0, .int 0, .int 0, .int 0, .int 0, .int 0, .ref gdraft, .ref grow, .ref growMany, .ref growFloats, .ref gsaved, .int 0, .int 0, .int 0])), (gweight, .inl (cI, 12, .inl (fun _ => 0))), (gpresent, .inl (cI, 12, .inl (fun _ => 0))), (gspeeches, .inl (cI, 12, .inl (fun _ => 0)))]) hD hS hA [0, 1, 2, 3] rfl
  refine va_calli (va_runV (As := [.int (zs 1)]) (rest := [.int (sp_delegate (zs 1))]) ⟨hx, hb, hml, hown, hts⟩ (c_X12_delegate l D cI cQ cM cR m0 gweight gpresent gspeeches gbuffer gstate gplace gmover gpart gamended gmany gclause gfirstMany gfirstClause gresolution gmotion gaway gawayMany gawayOrder gtable gcommittee glone gentry gchange gyesBy gnoBy gdraft grow growMany growFloats gsaved (zs 1) H.size) (cwV 1 hts (gV q_1210 q_1211 q_1212 q_76 q_1213) rfl rfl rfl (by decide +kernel) ⟨Nat.le_of_ble_eq_true rfl, Nat.le_of_ble_eq_true rfl⟩) ⟨PW_blind, va_recv hK hP (ci := 12) (q0 := 0) rfl rfl, PW_of hK (hP.sub [0, 1, 2, 3] rfl) (hD.sub [0, 1, 2, 3] (by decide) rfl)⟩ rfl rfl hl.1 rfl (lv_room (Nat.le_of_ble_eq_true rfl)) dL_law_175 ⟨Nat.le_of_ble_eq_true rfl, Nat.le_of_ble_eq_true rfl⟩) hS (fun q _ h => hFc q h) hFc (fun r_2 u t H1 locs ht hvm hw hB hz1 hk1 hS => ?_)
  have hP1 : va_P D vwCl [] H1 := va_P_nil
  have hD1 : va_D (va_A [(m0, .inr (12, [.ref gweight, .ref gpresent, .ref gspeeches, .int 0, .int 50, .int 0, .int 0, .ref gbuffer, .ref gstate, .ref gplace, .ref gmover, .ref gpart, .ref gamended, .ref gmany, .ref gclause, .ref gfirstMany, .ref gfirstClause, .int 0, .int 0, .int 0, .int (-1), .ref gresolution, .ref gmotion, .ref gaway, .ref gawayMany, .ref gawayOrder, .ref gtable, .ref gcommittee, .int 0, .int 0, .int 0, .int 0, .int 0, .int 0, .int 0, .int 0, .int (-5), .int 0, .int 0, .ref glone, .int 0, .ref gentry, .ref gchange, .int 0, .int (-1), .int 0, .int 0, .ref gyesBy, .ref gnoBy, .int 0, .int 0, .int 0, .int 0, .int 0, .int 0, .ref gdraft, .ref grow, .ref growMany, .ref growFloats, .ref gsaved, .int 0, .int 0, .int 0])), (gweight, .inl (cI, 12, .inl (fun _ => 0))), (gpresent, .inl (cI, 12, .inl (fun _ => 0))), (gspeeches, .inl (cI, 12, .inl (fun _ => 0)))] H.size) [] := va_D_nil
  obtain ⟨hP, hD⟩ := va_join (wr := []) (w1 := []) hP hD [0, 1, 2, 3] [] rfl rfl (by decide) (by decide) hk1 hFc hP1 hD1
  generalize H1 = H at hP hS ⊢
  have hP : va_P D vwCl [] H := hP
  have hD : va_D A [] := hD
  obtain rfl : r_2 = (sp_delegate (zs 1)) := hw
  refine lv_icmp_eq (tgt := 975) hx hb dL_law_178 (by decide) (fun _ => ?_) (fun c9 => absurd (rfl) c9)
  exact law_end l C0 hK hAd hS hl
theorem dL_law_183 : decode cL_law 183 = .ok (.aload_n 1, 1) := by decide +kernel
theorem dL_law_184 : decode cL_law 184 = .ok (.aload_n 0, 1) := by decide +kernel
theorem dL_law_185 : decode cL_law 185 = .ok (.iload_n 3, 1) := by decide +kernel
theorem dL_law_186 : decode cL_law 186 = .ok (.iconst 1, 1) := by decide +kernel
theorem dL_law_187 : decode cL_law 187 = .ok (.iadd, 1) := by decide +kernel
theorem dL_law_188 : decode cL_law 188 = .ok (.iaload, 1) := by decide +kernel
theorem dL_law_189 : decode cL_law 189 = .ok (.aload_n 0, 1) := by decide +kernel
theorem dL_law_190 : decode cL_law 190 = .ok (.iload_n 3, 1) := by decide +kernel
theorem dL_law_191 : decode cL_law 191 = .ok (.iconst 2, 1) := by decide +kernel
theorem dL_law_192 : decode cL_law 192 = .ok (.iadd, 1) := by decide +kernel
theorem dL_law_193 : decode cL_law 193 = .ok (.iaload, 1) := by decide +kernel
theorem dL_law_194 : decode cL_law 194 = .ok (.invokevirtual 18, 3) := by decide +kernel
theorem dL_law_197 : decode cL_law 197 = .ok (.aload_n 2, 1) := by decide +kernel
theorem dL_law_198 : decode cL_law 198 = .ok (.aload_n 0, 1) := by decide +kernel
theorem dL_law_199 : decode cL_law 199 = .ok (.iload_n 3, 1) := by decide +kernel
theorem dL_law_200 : decode cL_law 200 = .ok (.iconst 1, 1) := by decide +kernel
theorem dL_law_201 : decode cL_law 201 = .ok (.iadd, 1) := by decide +kernel
theorem dL_law_202 : decode cL_law 202 = .ok (.iaload, 1) := by decide +kernel
theorem dL_law_203 : decode cL_law 203 = .ok (.aload_n 0, 1) := by decide +kernel
theorem dL_law_204 : decode cL_law 204 = .ok (.iload_n 3, 1) := by decide +kernel
theorem dL_law_205 : decode cL_law 205 = .ok (.iconst 2, 1) := by decide +kernel
theorem dL_law_206 : decode cL_law 206 = .ok (.iadd, 1) := by decide +kernel
theorem dL_law_207 : decode cL_law 207 = .ok (.iaload, 1) := by decide +kernel
theorem dL_law_208 : decode cL_law 208 = .ok (.invokevirtual 22, 3) := by decide +kernel
theorem dL_law_211 : decode cL_law 211 = .ok (.if_icmp .eq 764, 3) := by decide +kernel
set_option maxRecDepth 100000 in
theorem q_1220 : (.code yX12_presence cX12_presence 4 (some .int)) ∈ lw_all := List.mem_filter.mpr ⟨List.mem_of_getElem? (i := 1220) (rfl), by decide +kernel⟩
set_option maxRecDepth 100000 in
theorem q_443 : (.code yX11_presence cX11_presence 4 (some .int)) ∈ lw_all := List.mem_filter.mpr ⟨List.mem_of_getElem? (i := 443) (rfl), by decide +kernel⟩
set_option maxRecDepth 100000 in
theorem q_1218 : (.instanceMethod yX12_presence) ∈ lw_all := List.mem_filter.mpr ⟨List.mem_of_getElem? (i := 1218) (by decide +kernel), by decide +kernel⟩
set_option maxRecDepth 100000 in
theorem q_441 : (.instanceMethod yX11_presence) ∈ lw_all := List.mem_filter.mpr ⟨List.mem_of_getElem? (i := 441) (by decide +kernel), by decide +kernel⟩
set_option maxRecDepth 100000 in
theorem q_440 : (.methodLink RL 18 yX11_presence) ∈ lw_all := List.mem_filter.mpr ⟨List.mem_of_getElem? (i := 440) (by decide +kernel), by decide +kernel⟩
set_option maxRecDepth 100000 in
theorem q_1217 : (.methodLink RL 22 yX12_presence) ∈ lw_all := List.mem_filter.mpr ⟨List.mem_of_getElem? (i := 1217) (by decide +kernel), by decide +kernel⟩
set_option maxRecDepth 100000 in
theorem q_442 : (.selects RX11 yX11_presence yX11_presence) ∈ lw_all := List.mem_filter.mpr ⟨List.mem_of_getElem? (i := 442) (by decide +kernel), by decide +kernel⟩
set_option maxRecDepth 100000 in
theorem q_1219 : (.selects RX12 yX12_presence yX12_presence) ∈ lw_all := List.mem_filter.mpr ⟨List.mem_of_getElem? (i := 1219) (by decide +kernel), by decide +kernel⟩
set_option maxHeartbeats 4000000 in
set_option maxRecDepth 100000 in
theorem law_presence {p : Program} {e : Env} {s : State} {m : MethodId} {below : List Frame} {meth : Method} {c : Code} (l : Launch) {b : Nat} {zs : Nat → Int32} (C0 : lw_At p s m meth c b 6 zs) {D : va_G} {cI cQ cM cR : ClassId} (hK : va_K D vwCl (TY cI cQ cM cR) s) {A : Nat → Prop} (hAd : ∀ q : Nat, A q ↔ s.heap.size ≤ q) {x0 nme sme xr xs nho ndk nsh nmi nba nde nbu nhw nhs m0 gweight gpresent gspeeches gbuffer gstate gplace gmover gpart gamended gmany gclause gfirstMany gfirstClause gresolution gmotion gaway gawayMany gawayOrder gtable gcommittee glone gentry gchange gyesBy gnoBy gdraft grow growMany growFloats gsaved : Nat} {H : Heap} {locs : List Loc} (hS : va_S A s.heap H locs) (hP : va_P D vwCl [(x0, .inr (11, [.ref nme, .ref sme, .int 0, .ref xr, .ref xs])), (nme, .inr (4, [.ref nho, .ref ndk, .ref nsh, .ref nmi, .ref nba, .ref nde, .ref nbu, .int 1, .int 0, .null, .int 0, .int 0, .int 0])), (nho, .inr (3, [.int 0, .int 50, .int 0, .ref nhw, .ref nhs])), (m0, .inr (12, [.ref gweight, .ref gpresent, .ref gspeeches, .int 0, .int 50, .int 0, .int 0, .ref gbuffer, .ref gstate, .ref gplace, .ref gmover, .ref gpart, .ref gamended, .ref gmany, .ref gclause, .ref gfirstMany, .ref gfirstClause, .int 0, .int 0, .int 0, .int (-1), .ref gresolution, .ref gmotion, .ref gaway, .ref gawayMany, .ref gawayOrder, .ref gtable, .ref gcommittee, .int 0, .int 0, .int 0, .int 0, .int 0, .int 0, .int 0, .int 0, .int (-5), .int 0, .int 0, .ref glone, .int 0, .ref gentry, .ref gchange, .int 0, .int (-1), .int 0, .int 0, .ref gyesBy, .ref gnoBy, .int 0, .int 0, .int 0, .int 0, .int 0, .int 0, .ref gdraft, .ref grow, .ref growMany, .ref growFloats, .ref gsaved, .int 0, .int 0, .int 0]))] H) (hD : va_D A [(x0, .inr (11, [.ref nme, .ref sme, .int 0, .ref xr, .ref xs])), (nme, .inr (4, [.ref nho, .ref ndk, .ref nsh, .ref nmi, .ref nba, .ref nde, .ref nbu, .int 1, .int 0, .null, .int 0, .int 0, .int 0])), (nho, .inr (3, [.int 0, .int 50, .int 0, .ref nhw, .ref nhs])), (m0, .inr (12, [.ref gweight, .ref gpresent, .ref gspeeches, .int 0, .int 50, .int 0, .int 0, .ref gbuffer, .ref gstate, .ref gplace, .ref gmover, .ref gpart, .ref gamended, .ref gmany, .ref gclause, .ref gfirstMany, .ref gfirstClause, .int 0, .int 0, .int 0, .int (-1), .ref gresolution, .ref gmotion, .ref gaway, .ref gawayMany, .ref gawayOrder, .ref gtable, .ref gcommittee, .int 0, .int 0, .int 0, .int 0, .int 0, .int 0, .int 0, .int 0, .int (-5), .int 0, .int 0, .ref glone, .int 0, .ref gentry, .ref gchange, .int 0, .int (-1), .int 0, .int 0, .ref gyesBy, .ref gnoBy, .int 0, .int 0, .int 0, .int 0, .int 0, .int 0, .ref gdraft, .ref grow, .ref growMany, .ref growFloats, .ref gsaved, .int 0, .int 0, .int 0]))]) {ls : Array Slot} (hl : lv_has ls 4 [(3, .int 0), (2, .ref m0), (1, .ref x0), (0, .ref b)]) : W p l e room_1 s m #[Value.ref b] below meth c H locs 289 13007 (lw_Z below #[Value.ref b] s) (F0 m 183 ls []) := by
  obtain ⟨hx, hb, hr, hml, hown0, hts0, hX, hbl, hlocks, hgv⟩ := id C0
  have hown : s.vm.findClass RL = some m.cls := hown0
  have hts : ∀ w ∈ lw_all, w.before _ s = true := fun w h => hts0 w (List.mem_filter.mp h).1
  have hA : ∀ q : Nat, s.heap.size ≤ q → A q := fun q h => (hAd q).mpr h
  have hbA : ¬ A b := fun h => absurd ((hAd b).mp h) (Nat.not_le.mpr hbl)
  refine lv_aload_n hx hb dL_law_183 rfl (lv_at hl 2 rfl) ?_
  refine lv_aload_n hx hb dL_law_184 rfl (lv_at hl 3 rfl) ?_
  refine lv_iload_n hx hb dL_law_185 rfl (lv_at hl 0 rfl) ?_
  refine lv_iconst (v := 1) hx hb dL_law_186 (by decide) ?_
  refine lv_iadd hx hb dL_law_187 ?_
  refine lv_cst (v := 1) (by decide) ?_
  refine va_sld hx hb hX hbl hbA hS (i := 1) (by unfold vp_in; decide) dL_law_188 ?_
  refine lv_cst (v := zs 1) rfl ?_
  refine lv_aload_n hx hb dL_law_189 rfl (lv_at hl 3 rfl) ?_
  refine lv_iload_n hx hb dL_law_190 rfl (lv_at hl 0 rfl) ?_
  refine lv_iconst (v := 2) hx hb dL_law_191 (by decide) ?_
  refine lv_iadd hx hb dL_law_192 ?_
  refine lv_cst (v := 2) (by decide) ?_
  refine va_sld hx hb hX hbl hbA hS (i := 2) (by unfold vp_in; decide) dL_law_193 ?_
  refine lv_cst (v := zs 2) rfl ?_
  refine p_call (va_runV (As := [.int (zs 1), .int (zs 2)]) (rest := []) ⟨hx, hb, hml, hown, hts⟩ (c_X11_presence l D cI cQ cM cR x0 nme sme xr xs nho ndk nsh nmi nba nde nbu nhw nhs (zs 1) (zs 2)) (cwV 2 hts (gV q_440 q_441 q_442 q_65 q_443) rfl rfl rfl (by decide +kernel) ⟨Nat.le_of_ble_eq_true rfl, Nat.le_of_ble_eq_true rfl⟩) ⟨PP_blind, va_recv hK hP (ci := 11) (q0 := 0) rfl rfl, PP_of hK (hP.sub [0, 1, 2] rfl)⟩ rfl rfl hl.1 rfl (lv_room (Nat.le_of_ble_eq_true rfl)) dL_law_194 ⟨Nat.le_of_ble_eq_true rfl, Nat.le_of_ble_eq_true rfl⟩) ?_
  refine lv_aload_n hx hb dL_law_197 rfl (lv_at hl 1 rfl) ?_
  refine lv_aload_n hx hb dL_law_198 rfl (lv_at hl 3 rfl) ?_
  refine lv_iload_n hx hb dL_law_199 rfl (lv_at hl 0 rfl) ?_
  refine lv_iconst (v := 1) hx hb dL_law_200 (by decide) ?_
  refine lv_iadd hx hb dL_law_201 ?_
  refine lv_cst (v := 1) (by decide) ?_
  refine va_sld hx hb hX hbl hbA hS (i := 1) (by unfold vp_in; decide) dL_law_202 ?_
  refine lv_cst (v := zs 1) rfl ?_
  refine lv_aload_n hx hb dL_law_203 rfl (lv_at hl 3 rfl) ?_
  refine lv_iload_n hx hb dL_law_204 rfl (lv_at hl 0 rfl) ?_
  refine lv_iconst (v := 2) hx hb dL_law_205 (by decide) ?_
  refine lv_iadd hx hb dL_law_206 ?_
  refine lv_cst (v := 2) (by decide) ?_
  refine va_sld hx hb hX hbl hbA hS (i := 2) (by unfold vp_in; decide) dL_law_207 ?_
  refine lv_cst (v := zs 2) rfl ?_
  refine p_call (va_runV (As := [.int (zs 1), .int (zs 2)]) (rest := [.int (-1)]) ⟨hx, hb, hml, hown, hts⟩ (c_X12_presence l D cI cQ cM cR m0 gweight gpresent gspeeches gbuffer gstate gplace gmover gpart gamended gmany gclause gfirstMany gfirstClause gresolution gmotion gaway gawayMany gawayOrder gtable gcommittee glone gentry gchange gyesBy gnoBy gdraft grow growMany growFloats gsaved (zs 1) (zs 2)) (cwV 2 hts (gV q_1217 q_1218 q_1219 q_76 q_1220) rfl rfl rfl (by decide +kernel) ⟨Nat.le_of_ble_eq_true rfl, Nat.le_of_ble_eq_true rfl⟩) ⟨PP_blind, va_recv hK hP (ci := 12) (q0 := 3) rfl rfl, PP_of hK (hP.sub [3] rfl)⟩ rfl rfl hl.1 rfl (lv_room (Nat.le_of_ble_eq_true rfl)) dL_law_208 ⟨Nat.le_of_ble_eq_true rfl, Nat.le_of_ble_eq_true rfl⟩) ?_
  refine lv_icmp_eq (tgt := 975) hx hb dL_law_211 (by decide) (fun _ => ?_) (fun c9 => absurd (by decide) c9)
  exact law_end l C0 hK hAd hS hl
theorem dL_law_216 : decode cL_law 216 = .ok (.aload_n 1, 1) := by decide +kernel
theorem dL_law_217 : decode cL_law 217 = .ok (.aload_n 0, 1) := by decide +kernel
theorem dL_law_218 : decode cL_law 218 = .ok (.iload_n 3, 1) := by decide +kernel
theorem dL_law_219 : decode cL_law 219 = .ok (.iconst 1, 1) := by decide +kernel
theorem dL_law_220 : decode cL_law 220 = .ok (.iadd, 1) := by decide +kernel
theorem dL_law_221 : decode cL_law 221 = .ok (.iaload, 1) := by decide +kernel
theorem dL_law_222 : decode cL_law 222 = .ok (.invokevirtual 23, 3) := by decide +kernel
theorem dL_law_225 : decode cL_law 225 = .ok (.aload_n 2, 1) := by decide +kernel
theorem dL_law_226 : decode cL_law 226 = .ok (.aload_n 0, 1) := by decide +kernel
theorem dL_law_227 : decode cL_law 227 = .ok (.iload_n 3, 1) := by decide +kernel
theorem dL_law_228 : decode cL_law 228 = .ok (.iconst 1, 1) := by decide +kernel
theorem dL_law_229 : decode cL_law 229 = .ok (.iadd, 1) := by decide +kernel
theorem dL_law_230 : decode cL_law 230 = .ok (.iaload, 1) := by decide +kernel
theorem dL_law_231 : decode cL_law 231 = .ok (.invokevirtual 26, 3) := by decide +kernel
theorem dL_law_234 : decode cL_law 234 = .ok (.if_icmp .eq 741, 3) := by decide +kernel
set_option maxRecDepth 100000 in
theorem q_1228 : (.code yX12_quorum cX12_quorum 3 (some .int)) ∈ lw_all := List.mem_filter.mpr ⟨List.mem_of_getElem? (i := 1228) (rfl), by decide +kernel⟩
set_option maxRecDepth 100000 in
theorem q_463 : (.code yX11_quorum cX11_quorum 3 (some .int)) ∈ lw_all := List.mem_filter.mpr ⟨List.mem_of_getElem? (i := 463) (rfl), by decide +kernel⟩
set_option maxRecDepth 100000 in
theorem q_1226 : (.instanceMethod yX12_quorum) ∈ lw_all := List.mem_filter.mpr ⟨List.mem_of_getElem? (i := 1226) (by decide +kernel), by decide +kernel⟩
set_option maxRecDepth 100000 in
theorem q_461 : (.instanceMethod yX11_quorum) ∈ lw_all := List.mem_filter.mpr ⟨List.mem_of_getElem? (i := 461) (by decide +kernel), by decide +kernel⟩
set_option maxRecDepth 100000 in
theorem q_460 : (.methodLink RL 23 yX11_quorum) ∈ lw_all := List.mem_filter.mpr ⟨List.mem_of_getElem? (i := 460) (by decide +kernel), by decide +kernel⟩
set_option maxRecDepth 100000 in
theorem q_1225 : (.methodLink RL 26 yX12_quorum) ∈ lw_all := List.mem_filter.mpr ⟨List.mem_of_getElem? (i := 1225) (by decide +kernel), by decide +kernel⟩
set_option maxRecDepth 100000 in
theorem q_462 : (.selects RX11 yX11_quorum yX11_quorum) ∈ lw_all := List.mem_filter.mpr ⟨List.mem_of_getElem? (i := 462) (by decide +kernel), by decide +kernel⟩
set_option maxRecDepth 100000 in
theorem q_1227 : (.selects RX12 yX12_quorum yX12_quorum) ∈ lw_all := List.mem_filter.mpr ⟨List.mem_of_getElem? (i := 1227) (by decide +kernel), by decide +kernel⟩
set_option maxHeartbeats 4000000 in
set_option maxRecDepth 100000 in
theorem law_quorum {p : Program} {e : Env} {s : State} {m : MethodId} {below : List Frame} {meth : Method} {c : Code} (l : Launch) {b : Nat} {zs : Nat → Int32} (C0 : lw_At p s m meth c b 6 zs) {D : va_G} {cI cQ cM cR : ClassId} (hK : va_K D vwCl (TY cI cQ cM cR) s) {A : Nat → Prop} (hAd : ∀ q : Nat, A q ↔ s.heap.size ≤ q) {x0 nme sme xr xs nho ndk nsh nmi nba nde nbu nhw nhs m0 gweight gpresent gspeeches gbuffer gstate gplace gmover gpart gamended gmany gclause gfirstMany gfirstClause gresolution gmotion gaway gawayMany gawayOrder gtable gcommittee glone gentry gchange gyesBy gnoBy gdraft grow growMany growFloats gsaved : Nat} {H : Heap} {locs : List Loc} (hS : va_S A s.heap H locs) (hP : va_P D vwCl [(x0, .inr (11, [.ref nme, .ref sme, .int 0, .ref xr, .ref xs])), (nme, .inr (4, [.ref nho, .ref ndk, .ref nsh, .ref nmi, .ref nba, .ref nde, .ref nbu, .int 1, .int 0, .null, .int 0, .int 0, .int 0])), (nho, .inr (3, [.int 0, .int 50, .int 0, .ref nhw, .ref nhs])), (m0, .inr (12, [.ref gweight, .ref gpresent, .ref gspeeches, .int 0, .int 50, .int 0, .int 0, .ref gbuffer, .ref gstate, .ref gplace, .ref gmover, .ref gpart, .ref gamended, .ref gmany, .ref gclause, .ref gfirstMany, .ref gfirstClause, .int 0, .int 0, .int 0, .int (-1), .ref gresolution, .ref gmotion, .ref gaway, .ref gawayMany, .ref gawayOrder, .ref gtable, .ref gcommittee, .int 0, .int 0, .int 0, .int 0, .int 0, .int 0, .int 0, .int 0, .int (-5), .int 0, .int 0, .ref glone, .int 0, .ref gentry, .ref gchange, .int 0, .int (-1), .int 0, .int 0, .ref gyesBy, .ref gnoBy, .int 0, .int 0, .int 0, .int 0, .int 0, .int 0, .ref gdraft, .ref grow, .ref growMany, .ref growFloats, .ref gsaved, .int 0, .int 0, .int 0]))] H) (hD : va_D A [(x0, .inr (11, [.ref nme, .ref sme, .int 0, .ref xr, .ref xs])), (nme, .inr (4, [.ref nho, .ref ndk, .ref nsh, .ref nmi, .ref nba, .ref nde, .ref nbu, .int 1, .int 0, .null, .int 0, .int 0, .int 0])), (nho, .inr (3, [.int 0, .int 50, .int 0, .ref nhw, .ref nhs])), (m0, .inr (12, [.ref gweight, .ref gpresent, .ref gspeeches, .int 0, .int 50, .int 0, .int 0, .ref gbuffer, .ref gstate, .ref gplace, .ref gmover, .ref gpart, .ref gamended, .ref gmany, .ref gclause, .ref gfirstMany, .ref gfirstClause, .int 0, .int 0, .int 0, .int (-1), .ref gresolution, .ref gmotion, .ref gaway, .ref gawayMany, .ref gawayOrder, .ref gtable, .ref gcommittee, .int 0, .int 0, .int 0, .int 0, .int 0, .int 0, .int 0, .int 0, .int (-5), .int 0, .int 0, .ref glone, .int 0, .ref gentry, .ref gchange, .int 0, .int (-1), .int 0, .int 0, .ref gyesBy, .ref gnoBy, .int 0, .int 0, .int 0, .int 0, .int 0, .int 0, .ref gdraft, .ref grow, .ref growMany, .ref growFloats, .ref gsaved, .int 0, .int 0, .int 0]))]) {ls : Array Slot} (hl : lv_has ls 4 [(3, .int 0), (2, .ref m0), (1, .ref x0), (0, .ref b)]) : W p l e room_1 s m #[Value.ref b] below meth c H locs 289 13007 (lw_Z below #[Value.ref b] s) (F0 m 216 ls []) := by
  obtain ⟨hx, hb, hr, hml, hown0, hts0, hX, hbl, hlocks, hgv⟩ := id C0
  have hown : s.vm.findClass RL = some m.cls := hown0
  have hts : ∀ w ∈ lw_all, w.before _ s = true := fun w h => hts0 w (List.mem_filter.mp h).1
  have hA : ∀ q : Nat, s.heap.size ≤ q → A q := fun q h => (hAd q).mpr h
  have hbA : ¬ A b := fun h => absurd ((hAd b).mp h) (Nat.not_le.mpr hbl)
  refine lv_aload_n hx hb dL_law_216 rfl (lv_at hl 2 rfl) ?_
  refine lv_aload_n hx hb dL_law_217 rfl (lv_at hl 3 rfl) ?_
  refine lv_iload_n hx hb dL_law_218 rfl (lv_at hl 0 rfl) ?_
  refine lv_iconst (v := 1) hx hb dL_law_219 (by decide) ?_
  refine lv_iadd hx hb dL_law_220 ?_
  refine lv_cst (v := 1) (by decide) ?_
  refine va_sld hx hb hX hbl hbA hS (i := 1) (by unfold vp_in; decide) dL_law_221 ?_
  refine lv_cst (v := zs 1) rfl ?_
  have hFc := va_free (wc := [(x0, .inr (11, [.ref nme, .ref sme, .int 0, .ref xr, .ref xs])), (nme, .inr (4, [.ref nho, .ref ndk, .ref nsh, .ref nmi, .ref nba, .ref nde, .ref nbu, .int 1, .int 0, .null, .int 0, .int 0, .int 0])), (nho, .inr (3, [.int 0, .int 50, .int 0, .ref nhw, .ref nhs]))]) hD hS hA [0, 1, 2] rfl
  refine va_calli (va_runV (As := [.int (zs 1)]) (rest := []) ⟨hx, hb, hml, hown, hts⟩ (c_X11_quorum l D cI cQ cM cR x0 nme sme xr xs nho ndk nsh nmi nba nde nbu nhw nhs (zs 1) H.size) (cwV 1 hts (gV q_460 q_461 q_462 q_65 q_463) rfl rfl rfl (by decide +kernel) ⟨Nat.le_of_ble_eq_true rfl, Nat.le_of_ble_eq_true rfl⟩) ⟨PW_blind, va_recv hK hP (ci := 11) (q0 := 0) rfl rfl, PW_of hK (hP.sub [0, 1, 2] rfl) (hD.sub [0, 1, 2] (by decide) rfl)⟩ rfl rfl hl.1 rfl (lv_room (Nat.le_of_ble_eq_true rfl)) dL_law_222 ⟨Nat.le_of_ble_eq_true rfl, Nat.le_of_ble_eq_true rfl⟩) hS (fun q _ h => hFc q h) hFc (fun r_1 u t H1 locs ht hvm hw hB hz1 hk1 hS => ?_)
  have hP1 : va_P D vwCl [] H1 := va_P_nil
  have hD1 : va_D (va_A [(x0, .inr (11, [.ref nme, .ref sme, .int 0, .ref xr, .ref xs])), (nme, .inr (4, [.ref nho, .ref ndk, .ref nsh, .ref nmi, .ref nba, .ref nde, .ref nbu, .int 1, .int 0, .null, .int 0, .int 0, .int 0])), (nho, .inr (3, [.int 0, .int 50, .int 0, .ref nhw, .ref nhs]))] H.size) [] := va_D_nil
  obtain ⟨hP, hD⟩ := va_join (wr := [(m0, .inr (12, [.ref gweight, .ref gpresent, .ref gspeeches, .int 0, .int 50, .int 0, .int 0, .ref gbuffer, .ref gstate, .ref gplace, .ref gmover, .ref gpart, .ref gamended, .ref gmany, .ref gclause, .ref gfirstMany, .ref gfirstClause, .int 0, .int 0, .int 0, .int (-1), .ref gresolution, .ref gmotion, .ref gaway, .ref gawayMany, .ref gawayOrder, .ref gtable, .ref gcommittee, .int 0, .int 0, .int 0, .int 0, .int 0, .int 0, .int 0, .int 0, .int (-5), .int 0, .int 0, .ref glone, .int 0, .ref gentry, .ref gchange, .int 0, .int (-1), .int 0, .int 0, .ref gyesBy, .ref gnoBy, .int 0, .int 0, .int 0, .int 0, .int 0, .int 0, .ref gdraft, .ref grow, .ref growMany, .ref growFloats, .ref gsaved, .int 0, .int 0, .int 0]))]) (w1 := []) hP hD [0, 1, 2] [3] rfl rfl (by decide) (by decide) hk1 hFc hP1 hD1
  generalize H1 = H at hP hS ⊢
  have hP : va_P D vwCl [(m0, .inr (12, [.ref gweight, .ref gpresent, .ref gspeeches, .int 0, .int 50, .int 0, .int 0, .ref gbuffer, .ref gstate, .ref gplace, .ref gmover, .ref gpart, .ref gamended, .ref gmany, .ref gclause, .ref gfirstMany, .ref gfirstClause, .int 0, .int 0, .int 0, .int (-1), .ref gresolution, .ref gmotion, .ref gaway, .ref gawayMany, .ref gawayOrder, .ref gtable, .ref gcommittee, .int 0, .int 0, .int 0, .int 0, .int 0, .int 0, .int 0, .int 0, .int (-5), .int 0, .int 0, .ref glone, .int 0, .ref gentry, .ref gchange, .int 0, .int (-1), .int 0, .int 0, .ref gyesBy, .ref gnoBy, .int 0, .int 0, .int 0, .int 0, .int 0, .int 0, .ref gdraft, .ref grow, .ref growMany, .ref growFloats, .ref gsaved, .int 0, .int 0, .int 0]))] H := hP
  have hD : va_D A [(m0, .inr (12, [.ref gweight, .ref gpresent, .ref gspeeches, .int 0, .int 50, .int 0, .int 0, .ref gbuffer, .ref gstate, .ref gplace, .ref gmover, .ref gpart, .ref gamended, .ref gmany, .ref gclause, .ref gfirstMany, .ref gfirstClause, .int 0, .int 0, .int 0, .int (-1), .ref gresolution, .ref gmotion, .ref gaway, .ref gawayMany, .ref gawayOrder, .ref gtable, .ref gcommittee, .int 0, .int 0, .int 0, .int 0, .int 0, .int 0, .int 0, .int 0, .int (-5), .int 0, .int 0, .ref glone, .int 0, .ref gentry, .ref gchange, .int 0, .int (-1), .int 0, .int 0, .ref gyesBy, .ref gnoBy, .int 0, .int 0, .int 0, .int 0, .int 0, .int 0, .ref gdraft, .ref grow, .ref growMany, .ref growFloats, .ref gsaved, .int 0, .int 0, .int 0]))] := hD
  obtain rfl : r_1 = (sp_quorum (zs 1)) := hw
  refine lv_aload_n hx hb dL_law_225 rfl (lv_at hl 1 rfl) ?_
  refine lv_aload_n hx hb dL_law_226 rfl (lv_at hl 3 rfl) ?_
  refine lv_iload_n hx hb dL_law_227 rfl (lv_at hl 0 rfl) ?_
  refine lv_iconst (v := 1) hx hb dL_law_228 (by decide) ?_
  refine lv_iadd hx hb dL_law_229 ?_
  refine lv_cst (v := 1) (by decide) ?_
  refine va_sld hx hb hX hbl hbA hS (i := 1) (by unfold vp_in; decide) dL_law_230 ?_
  refine lv_cst (v := zs 1) rfl ?_
  have hFc := va_free (wc := [(m0, .inr (12, [.ref gweight, .ref gpresent, .ref gspeeches, .int 0, .int 50, .int 0, .int 0, .ref gbuffer, .ref gstate, .ref gplace, .ref gmover, .ref gpart, .ref gamended, .ref gmany, .ref gclause, .ref gfirstMany, .ref gfirstClause, .int 0, .int 0, .int 0, .int (-1), .ref gresolution, .ref gmotion, .ref gaway, .ref gawayMany, .ref gawayOrder, .ref gtable, .ref gcommittee, .int 0, .int 0, .int 0, .int 0, .int 0, .int 0, .int 0, .int 0, .int (-5), .int 0, .int 0, .ref glone, .int 0, .ref gentry, .ref gchange, .int 0, .int (-1), .int 0, .int 0, .ref gyesBy, .ref gnoBy, .int 0, .int 0, .int 0, .int 0, .int 0, .int 0, .ref gdraft, .ref grow, .ref growMany, .ref growFloats, .ref gsaved, .int 0, .int 0, .int 0]))]) hD hS hA [0] rfl
  refine va_calli (va_runV (As := [.int (zs 1)]) (rest := [.int (sp_quorum (zs 1))]) ⟨hx, hb, hml, hown, hts⟩ (c_X12_quorum l D cI cQ cM cR m0 gweight gpresent gspeeches gbuffer gstate gplace gmover gpart gamended gmany gclause gfirstMany gfirstClause gresolution gmotion gaway gawayMany gawayOrder gtable gcommittee glone gentry gchange gyesBy gnoBy gdraft grow growMany growFloats gsaved (zs 1) H.size) (cwV 1 hts (gV q_1225 q_1226 q_1227 q_76 q_1228) rfl rfl rfl (by decide +kernel) ⟨Nat.le_of_ble_eq_true rfl, Nat.le_of_ble_eq_true rfl⟩) ⟨PW_blind, va_recv hK hP (ci := 12) (q0 := 0) rfl rfl, PW_of hK (hP.sub [0] rfl) (hD.sub [0] (by decide) rfl)⟩ rfl rfl hl.1 rfl (lv_room (Nat.le_of_ble_eq_true rfl)) dL_law_231 ⟨Nat.le_of_ble_eq_true rfl, Nat.le_of_ble_eq_true rfl⟩) hS (fun q _ h => hFc q h) hFc (fun r_2 u t H1 locs ht hvm hw hB hz1 hk1 hS => ?_)
  have hP1 : va_P D vwCl [] H1 := va_P_nil
  have hD1 : va_D (va_A [(m0, .inr (12, [.ref gweight, .ref gpresent, .ref gspeeches, .int 0, .int 50, .int 0, .int 0, .ref gbuffer, .ref gstate, .ref gplace, .ref gmover, .ref gpart, .ref gamended, .ref gmany, .ref gclause, .ref gfirstMany, .ref gfirstClause, .int 0, .int 0, .int 0, .int (-1), .ref gresolution, .ref gmotion, .ref gaway, .ref gawayMany, .ref gawayOrder, .ref gtable, .ref gcommittee, .int 0, .int 0, .int 0, .int 0, .int 0, .int 0, .int 0, .int 0, .int (-5), .int 0, .int 0, .ref glone, .int 0, .ref gentry, .ref gchange, .int 0, .int (-1), .int 0, .int 0, .ref gyesBy, .ref gnoBy, .int 0, .int 0, .int 0, .int 0, .int 0, .int 0, .ref gdraft, .ref grow, .ref growMany, .ref growFloats, .ref gsaved, .int 0, .int 0, .int 0]))] H.size) [] := va_D_nil
  obtain ⟨hP, hD⟩ := va_join (wr := []) (w1 := []) hP hD [0] [] rfl rfl (by decide) (by decide) hk1 hFc hP1 hD1
  generalize H1 = H at hP hS ⊢
  have hP : va_P D vwCl [] H := hP
  have hD : va_D A [] := hD
  obtain rfl : r_2 = (sp_quorum (zs 1)) := hw
  refine lv_icmp_eq (tgt := 975) hx hb dL_law_234 (by decide) (fun _ => ?_) (fun c9 => absurd (rfl) c9)
  exact law_end l C0 hK hAd hS hl
theorem dL_law_239 : decode cL_law 239 = .ok (.aload_n 1, 1) := by decide +kernel
theorem dL_law_240 : decode cL_law 240 = .ok (.aload_n 0, 1) := by decide +kernel
theorem dL_law_241 : decode cL_law 241 = .ok (.iload_n 3, 1) := by decide +kernel
theorem dL_law_242 : decode cL_law 242 = .ok (.iconst 1, 1) := by decide +kernel
theorem dL_law_243 : decode cL_law 243 = .ok (.iadd, 1) := by decide +kernel
theorem dL_law_244 : decode cL_law 244 = .ok (.iaload, 1) := by decide +kernel
theorem dL_law_245 : decode cL_law 245 = .ok (.invokevirtual 27, 3) := by decide +kernel
theorem dL_law_248 : decode cL_law 248 = .ok (.aload_n 2, 1) := by decide +kernel
theorem dL_law_249 : decode cL_law 249 = .ok (.aload_n 0, 1) := by decide +kernel
theorem dL_law_250 : decode cL_law 250 = .ok (.iload_n 3, 1) := by decide +kernel
theorem dL_law_251 : decode cL_law 251 = .ok (.iconst 1, 1) := by decide +kernel
theorem dL_law_252 : decode cL_law 252 = .ok (.iadd, 1) := by decide +kernel
theorem dL_law_253 : decode cL_law 253 = .ok (.iaload, 1) := by decide +kernel
theorem dL_law_254 : decode cL_law 254 = .ok (.invokevirtual 30, 3) := by decide +kernel
theorem dL_law_257 : decode cL_law 257 = .ok (.if_icmp .eq 718, 3) := by decide +kernel
set_option maxRecDepth 100000 in
theorem q_1232 : (.code yX12_clause cX12_clause 2 (some .int)) ∈ lw_all := List.mem_filter.mpr ⟨List.mem_of_getElem? (i := 1232) (rfl), by decide +kernel⟩
set_option maxRecDepth 100000 in
theorem q_467 : (.code yX11_clause cX11_clause 2 (some .int)) ∈ lw_all := List.mem_filter.mpr ⟨List.mem_of_getElem? (i := 467) (rfl), by decide +kernel⟩
set_option maxRecDepth 100000 in
theorem q_1230 : (.instanceMethod yX12_clause) ∈ lw_all := List.mem_filter.mpr ⟨List.mem_of_getElem? (i := 1230) (by decide +kernel), by decide +kernel⟩
set_option maxRecDepth 100000 in
theorem q_465 : (.instanceMethod yX11_clause) ∈ lw_all := List.mem_filter.mpr ⟨List.mem_of_getElem? (i := 465) (by decide +kernel), by decide +kernel⟩
set_option maxRecDepth 100000 in
theorem q_464 : (.methodLink RL 27 yX11_clause) ∈ lw_all := List.mem_filter.mpr ⟨List.mem_of_getElem? (i := 464) (by decide +kernel), by decide +kernel⟩
set_option maxRecDepth 100000 in
theorem q_1229 : (.methodLink RL 30 yX12_clause) ∈ lw_all := List.mem_filter.mpr ⟨List.mem_of_getElem? (i := 1229) (by decide +kernel), by decide +kernel⟩
set_option maxRecDepth 100000 in
theorem q_466 : (.selects RX11 yX11_clause yX11_clause) ∈ lw_all := List.mem_filter.mpr ⟨List.mem_of_getElem? (i := 466) (by decide +kernel), by decide +kernel⟩
set_option maxRecDepth 100000 in
theorem q_1231 : (.selects RX12 yX12_clause yX12_clause) ∈ lw_all := List.mem_filter.mpr ⟨List.mem_of_getElem? (i := 1231) (by decide +kernel), by decide +kernel⟩
set_option maxHeartbeats 4000000 in
set_option maxRecDepth 100000 in
theorem law_clause {p : Program} {e : Env} {s : State} {m : MethodId} {below : List Frame} {meth : Method} {c : Code} (l : Launch) {b : Nat} {zs : Nat → Int32} (C0 : lw_At p s m meth c b 6 zs) {D : va_G} {cI cQ cM cR : ClassId} (hK : va_K D vwCl (TY cI cQ cM cR) s) {A : Nat → Prop} (hAd : ∀ q : Nat, A q ↔ s.heap.size ≤ q) {x0 nme sme xr xs nho ndk nsh nmi nba nde nbu nbc m0 gweight gpresent gspeeches gbuffer gstate gplace gmover gpart gamended gmany gclause gfirstMany gfirstClause gresolution gmotion gaway gawayMany gawayOrder gtable gcommittee glone gentry gchange gyesBy gnoBy gdraft grow growMany growFloats gsaved : Nat} {H : Heap} {locs : List Loc} (hS : va_S A s.heap H locs) (hP : va_P D vwCl [(x0, .inr (11, [.ref nme, .ref sme, .int 0, .ref xr, .ref xs])), (nme, .inr (4, [.ref nho, .ref ndk, .ref nsh, .ref nmi, .ref nba, .ref nde, .ref nbu, .int 1, .int 0, .null, .int 0, .int 0, .int 0])), (nbu, .inr (10, [.int 0, .ref nbc])), (nbc, .inl (cI, 8, .inl (fun _ => 0))), (m0, .inr (12, [.ref gweight, .ref gpresent, .ref gspeeches, .int 0, .int 50, .int 0, .int 0, .ref gbuffer, .ref gstate, .ref gplace, .ref gmover, .ref gpart, .ref gamended, .ref gmany, .ref gclause, .ref gfirstMany, .ref gfirstClause, .int 0, .int 0, .int 0, .int (-1), .ref gresolution, .ref gmotion, .ref gaway, .ref gawayMany, .ref gawayOrder, .ref gtable, .ref gcommittee, .int 0, .int 0, .int 0, .int 0, .int 0, .int 0, .int 0, .int 0, .int (-5), .int 0, .int 0, .ref glone, .int 0, .ref gentry, .ref gchange, .int 0, .int (-1), .int 0, .int 0, .ref gyesBy, .ref gnoBy, .int 0, .int 0, .int 0, .int 0, .int 0, .int 0, .ref gdraft, .ref grow, .ref growMany, .ref growFloats, .ref gsaved, .int 0, .int 0, .int 0])), (gbuffer, .inl (cI, 8, .inl (fun _ => 0)))] H) (hD : va_D A [(x0, .inr (11, [.ref nme, .ref sme, .int 0, .ref xr, .ref xs])), (nme, .inr (4, [.ref nho, .ref ndk, .ref nsh, .ref nmi, .ref nba, .ref nde, .ref nbu, .int 1, .int 0, .null, .int 0, .int 0, .int 0])), (nbu, .inr (10, [.int 0, .ref nbc])), (nbc, .inl (cI, 8, .inl (fun _ => 0))), (m0, .inr (12, [.ref gweight, .ref gpresent, .ref gspeeches, .int 0, .int 50, .int 0, .int 0, .ref gbuffer, .ref gstate, .ref gplace, .ref gmover, .ref gpart, .ref gamended, .ref gmany, .ref gclause, .ref gfirstMany, .ref gfirstClause, .int 0, .int 0, .int 0, .int (-1), .ref gresolution, .ref gmotion, .ref gaway, .ref gawayMany, .ref gawayOrder, .ref gtable, .ref gcommittee, .int 0, .int 0, .int 0, .int 0, .int 0, .int 0, .int 0, .int 0, .int (-5), .int 0, .int 0, .ref glone, .int 0, .ref gentry, .ref gchange, .int 0, .int (-1), .int 0, .int 0, .ref gyesBy, .ref gnoBy, .int 0, .int 0, .int 0, .int 0, .int 0, .int 0, .ref gdraft, .ref grow, .ref growMany, .ref growFloats, .ref gsaved, .int 0, .int 0, .int 0])), (gbuffer, .inl (cI, 8, .inl (fun _ => 0)))]) {ls : Array Slot} (hl : lv_has ls 4 [(3, .int 0), (2, .ref m0), (1, .ref x0), (0, .ref b)]) : W p l e room_1 s m #[Value.ref b] below meth c H locs 289 13007 (lw_Z below #[Value.ref b] s) (F0 m 239 ls []) := by
  obtain ⟨hx, hb, hr, hml, hown0, hts0, hX, hbl, hlocks, hgv⟩ := id C0
  have hown : s.vm.findClass RL = some m.cls := hown0
  have hts : ∀ w ∈ lw_all, w.before _ s = true := fun w h => hts0 w (List.mem_filter.mp h).1
  have hA : ∀ q : Nat, s.heap.size ≤ q → A q := fun q h => (hAd q).mpr h
  have hbA : ¬ A b := fun h => absurd ((hAd b).mp h) (Nat.not_le.mpr hbl)
  refine lv_aload_n hx hb dL_law_239 rfl (lv_at hl 2 rfl) ?_
  refine lv_aload_n hx hb dL_law_240 rfl (lv_at hl 3 rfl) ?_
  refine lv_iload_n hx hb dL_law_241 rfl (lv_at hl 0 rfl) ?_
  refine lv_iconst (v := 1) hx hb dL_law_242 (by decide) ?_
  refine lv_iadd hx hb dL_law_243 ?_
  refine lv_cst (v := 1) (by decide) ?_
  refine va_sld hx hb hX hbl hbA hS (i := 1) (by unfold vp_in; decide) dL_law_244 ?_
  refine lv_cst (v := zs 1) rfl ?_
  have hFc := va_free (wc := [(x0, .inr (11, [.ref nme, .ref sme, .int 0, .ref xr, .ref xs])), (nme, .inr (4, [.ref nho, .ref ndk, .ref nsh, .ref nmi, .ref nba, .ref nde, .ref nbu, .int 1, .int 0, .null, .int 0, .int 0, .int 0])), (nbu, .inr (10, [.int 0, .ref nbc])), (nbc, .inl (cI, 8, .inl (fun _ => 0)))]) hD hS hA [0, 1, 2, 3] rfl
  refine va_calli (va_runV (As := [.int (zs 1)]) (rest := []) ⟨hx, hb, hml, hown, hts⟩ (c_X11_clause l D cI cQ cM cR x0 nme sme xr xs nho ndk nsh nmi nba nde nbu nbc (zs 1) H.size) (cwV 1 hts (gV q_464 q_465 q_466 q_65 q_467) rfl rfl rfl (by decide +kernel) ⟨Nat.le_of_ble_eq_true rfl, Nat.le_of_ble_eq_true rfl⟩) ⟨PW_blind, va_recv hK hP (ci := 11) (q0 := 0) rfl rfl, PW_of hK (hP.sub [0, 1, 2, 3] rfl) (hD.sub [0, 1, 2, 3] (by decide) rfl)⟩ rfl rfl hl.1 rfl (lv_room (Nat.le_of_ble_eq_true rfl)) dL_law_245 ⟨Nat.le_of_ble_eq_true rfl, Nat.le_of_ble_eq_true rfl⟩) hS (fun q _ h => hFc q h) hFc (fun r_1 u t H1 locs ht hvm hw hB hz1 hk1 hS => ?_)
  have hP1 : va_P D vwCl [] H1 := va_P_nil
  have hD1 : va_D (va_A [(x0, .inr (11, [.ref nme, .ref sme, .int 0, .ref xr, .ref xs])), (nme, .inr (4, [.ref nho, .ref ndk, .ref nsh, .ref nmi, .ref nba, .ref nde, .ref nbu, .int 1, .int 0, .null, .int 0, .int 0, .int 0])), (nbu, .inr (10, [.int 0, .ref nbc])), (nbc, .inl (cI, 8, .inl (fun _ => 0)))] H.size) [] := va_D_nil
  obtain ⟨hP, hD⟩ := va_join (wr := [(m0, .inr (12, [.ref gweight, .ref gpresent, .ref gspeeches, .int 0, .int 50, .int 0, .int 0, .ref gbuffer, .ref gstate, .ref gplace, .ref gmover, .ref gpart, .ref gamended, .ref gmany, .ref gclause, .ref gfirstMany, .ref gfirstClause, .int 0, .int 0, .int 0, .int (-1), .ref gresolution, .ref gmotion, .ref gaway, .ref gawayMany, .ref gawayOrder, .ref gtable, .ref gcommittee, .int 0, .int 0, .int 0, .int 0, .int 0, .int 0, .int 0, .int 0, .int (-5), .int 0, .int 0, .ref glone, .int 0, .ref gentry, .ref gchange, .int 0, .int (-1), .int 0, .int 0, .ref gyesBy, .ref gnoBy, .int 0, .int 0, .int 0, .int 0, .int 0, .int 0, .ref gdraft, .ref grow, .ref growMany, .ref growFloats, .ref gsaved, .int 0, .int 0, .int 0])), (gbuffer, .inl (cI, 8, .inl (fun _ => 0)))]) (w1 := []) hP hD [0, 1, 2, 3] [4, 5] rfl rfl (by decide) (by decide) hk1 hFc hP1 hD1
  generalize H1 = H at hP hS ⊢
  have hP : va_P D vwCl [(m0, .inr (12, [.ref gweight, .ref gpresent, .ref gspeeches, .int 0, .int 50, .int 0, .int 0, .ref gbuffer, .ref gstate, .ref gplace, .ref gmover, .ref gpart, .ref gamended, .ref gmany, .ref gclause, .ref gfirstMany, .ref gfirstClause, .int 0, .int 0, .int 0, .int (-1), .ref gresolution, .ref gmotion, .ref gaway, .ref gawayMany, .ref gawayOrder, .ref gtable, .ref gcommittee, .int 0, .int 0, .int 0, .int 0, .int 0, .int 0, .int 0, .int 0, .int (-5), .int 0, .int 0, .ref glone, .int 0, .ref gentry, .ref gchange, .int 0, .int (-1), .int 0, .int 0, .ref gyesBy, .ref gnoBy, .int 0, .int 0, .int 0, .int 0, .int 0, .int 0, .ref gdraft, .ref grow, .ref growMany, .ref growFloats, .ref gsaved, .int 0, .int 0, .int 0])), (gbuffer, .inl (cI, 8, .inl (fun _ => 0)))] H := hP
  have hD : va_D A [(m0, .inr (12, [.ref gweight, .ref gpresent, .ref gspeeches, .int 0, .int 50, .int 0, .int 0, .ref gbuffer, .ref gstate, .ref gplace, .ref gmover, .ref gpart, .ref gamended, .ref gmany, .ref gclause, .ref gfirstMany, .ref gfirstClause, .int 0, .int 0, .int 0, .int (-1), .ref gresolution, .ref gmotion, .ref gaway, .ref gawayMany, .ref gawayOrder, .ref gtable, .ref gcommittee, .int 0, .int 0, .int 0, .int 0, .int 0, .int 0, .int 0, .int 0, .int (-5), .int 0, .int 0, .ref glone, .int 0, .ref gentry, .ref gchange, .int 0, .int (-1), .int 0, .int 0, .ref gyesBy, .ref gnoBy, .int 0, .int 0, .int 0, .int 0, .int 0, .int 0, .ref gdraft, .ref grow, .ref growMany, .ref growFloats, .ref gsaved, .int 0, .int 0, .int 0])), (gbuffer, .inl (cI, 8, .inl (fun _ => 0)))] := hD
  obtain rfl : r_1 = (sp_clause (zs 1)) := hw
  refine lv_aload_n hx hb dL_law_248 rfl (lv_at hl 1 rfl) ?_
  refine lv_aload_n hx hb dL_law_249 rfl (lv_at hl 3 rfl) ?_
  refine lv_iload_n hx hb dL_law_250 rfl (lv_at hl 0 rfl) ?_
  refine lv_iconst (v := 1) hx hb dL_law_251 (by decide) ?_
  refine lv_iadd hx hb dL_law_252 ?_
  refine lv_cst (v := 1) (by decide) ?_
  refine va_sld hx hb hX hbl hbA hS (i := 1) (by unfold vp_in; decide) dL_law_253 ?_
  refine lv_cst (v := zs 1) rfl ?_
  have hFc := va_free (wc := [(m0, .inr (12, [.ref gweight, .ref gpresent, .ref gspeeches, .int 0, .int 50, .int 0, .int 0, .ref gbuffer, .ref gstate, .ref gplace, .ref gmover, .ref gpart, .ref gamended, .ref gmany, .ref gclause, .ref gfirstMany, .ref gfirstClause, .int 0, .int 0, .int 0, .int (-1), .ref gresolution, .ref gmotion, .ref gaway, .ref gawayMany, .ref gawayOrder, .ref gtable, .ref gcommittee, .int 0, .int 0, .int 0, .int 0, .int 0, .int 0, .int 0, .int 0, .int (-5), .int 0, .int 0, .ref glone, .int 0, .ref gentry, .ref gchange, .int 0, .int (-1), .int 0, .int 0, .ref gyesBy, .ref gnoBy, .int 0, .int 0, .int 0, .int 0, .int 0, .int 0, .ref gdraft, .ref grow, .ref growMany, .ref growFloats, .ref gsaved, .int 0, .int 0, .int 0])), (gbuffer, .inl (cI, 8, .inl (fun _ => 0)))]) hD hS hA [0, 1] rfl
  refine va_calli (va_runV (As := [.int (zs 1)]) (rest := [.int (sp_clause (zs 1))]) ⟨hx, hb, hml, hown, hts⟩ (c_X12_clause l D cI cQ cM cR m0 gweight gpresent gspeeches gbuffer gstate gplace gmover gpart gamended gmany gclause gfirstMany gfirstClause gresolution gmotion gaway gawayMany gawayOrder gtable gcommittee glone gentry gchange gyesBy gnoBy gdraft grow growMany growFloats gsaved (zs 1) H.size) (cwV 1 hts (gV q_1229 q_1230 q_1231 q_76 q_1232) rfl rfl rfl (by decide +kernel) ⟨Nat.le_of_ble_eq_true rfl, Nat.le_of_ble_eq_true rfl⟩) ⟨PW_blind, va_recv hK hP (ci := 12) (q0 := 0) rfl rfl, PW_of hK (hP.sub [0, 1] rfl) (hD.sub [0, 1] (by decide) rfl)⟩ rfl rfl hl.1 rfl (lv_room (Nat.le_of_ble_eq_true rfl)) dL_law_254 ⟨Nat.le_of_ble_eq_true rfl, Nat.le_of_ble_eq_true rfl⟩) hS (fun q _ h => hFc q h) hFc (fun r_2 u t H1 locs ht hvm hw hB hz1 hk1 hS => ?_)
  have hP1 : va_P D vwCl [] H1 := va_P_nil
  have hD1 : va_D (va_A [(m0, .inr (12, [.ref gweight, .ref gpresent, .ref gspeeches, .int 0, .int 50, .int 0, .int 0, .ref gbuffer, .ref gstate, .ref gplace, .ref gmover, .ref gpart, .ref gamended, .ref gmany, .ref gclause, .ref gfirstMany, .ref gfirstClause, .int 0, .int 0, .int 0, .int (-1), .ref gresolution, .ref gmotion, .ref gaway, .ref gawayMany, .ref gawayOrder, .ref gtable, .ref gcommittee, .int 0, .int 0, .int 0, .int 0, .int 0, .int 0, .int 0, .int 0, .int (-5), .int 0, .int 0, .ref glone, .int 0, .ref gentry, .ref gchange, .int 0, .int (-1), .int 0, .int 0, .ref gyesBy, .ref gnoBy, .int 0, .int 0, .int 0, .int 0, .int 0, .int 0, .ref gdraft, .ref grow, .ref growMany, .ref growFloats, .ref gsaved, .int 0, .int 0, .int 0])), (gbuffer, .inl (cI, 8, .inl (fun _ => 0)))] H.size) [] := va_D_nil
  obtain ⟨hP, hD⟩ := va_join (wr := []) (w1 := []) hP hD [0, 1] [] rfl rfl (by decide) (by decide) hk1 hFc hP1 hD1
  generalize H1 = H at hP hS ⊢
  have hP : va_P D vwCl [] H := hP
  have hD : va_D A [] := hD
  obtain rfl : r_2 = (sp_clause (zs 1)) := hw
  refine lv_icmp_eq (tgt := 975) hx hb dL_law_257 (by decide) (fun _ => ?_) (fun c9 => absurd (rfl) c9)
  exact law_end l C0 hK hAd hS hl
theorem dL_law_262 : decode cL_law 262 = .ok (.aload_n 1, 1) := by decide +kernel
theorem dL_law_263 : decode cL_law 263 = .ok (.aload_n 0, 1) := by decide +kernel
theorem dL_law_264 : decode cL_law 264 = .ok (.iload_n 3, 1) := by decide +kernel
theorem dL_law_265 : decode cL_law 265 = .ok (.iconst 1, 1) := by decide +kernel
theorem dL_law_266 : decode cL_law 266 = .ok (.iadd, 1) := by decide +kernel
theorem dL_law_267 : decode cL_law 267 = .ok (.iaload, 1) := by decide +kernel
theorem dL_law_268 : decode cL_law 268 = .ok (.aload_n 0, 1) := by decide +kernel
theorem dL_law_269 : decode cL_law 269 = .ok (.iload_n 3, 1) := by decide +kernel
theorem dL_law_270 : decode cL_law 270 = .ok (.iconst 2, 1) := by decide +kernel
theorem dL_law_271 : decode cL_law 271 = .ok (.iadd, 1) := by decide +kernel
theorem dL_law_272 : decode cL_law 272 = .ok (.iaload, 1) := by decide +kernel
theorem dL_law_273 : decode cL_law 273 = .ok (.aload_n 0, 1) := by decide +kernel
theorem dL_law_274 : decode cL_law 274 = .ok (.iload_n 3, 1) := by decide +kernel
theorem dL_law_275 : decode cL_law 275 = .ok (.iconst 3, 1) := by decide +kernel
theorem dL_law_276 : decode cL_law 276 = .ok (.iadd, 1) := by decide +kernel
theorem dL_law_277 : decode cL_law 277 = .ok (.iaload, 1) := by decide +kernel
theorem dL_law_278 : decode cL_law 278 = .ok (.aload_n 0, 1) := by decide +kernel
theorem dL_law_279 : decode cL_law 279 = .ok (.iload_n 3, 1) := by decide +kernel
theorem dL_law_280 : decode cL_law 280 = .ok (.iconst 4, 1) := by decide +kernel
theorem dL_law_281 : decode cL_law 281 = .ok (.iadd, 1) := by decide +kernel
theorem dL_law_282 : decode cL_law 282 = .ok (.iaload, 1) := by decide +kernel
theorem dL_law_283 : decode cL_law 283 = .ok (.aload_n 0, 1) := by decide +kernel
theorem dL_law_284 : decode cL_law 284 = .ok (.iload_n 3, 1) := by decide +kernel
theorem dL_law_285 : decode cL_law 285 = .ok (.iconst 5, 1) := by decide +kernel
theorem dL_law_286 : decode cL_law 286 = .ok (.iadd, 1) := by decide +kernel
theorem dL_law_287 : decode cL_law 287 = .ok (.iaload, 1) := by decide +kernel
theorem dL_law_288 : decode cL_law 288 = .ok (.invokevirtual 31, 3) := by decide +kernel
theorem dL_law_291 : decode cL_law 291 = .ok (.aload_n 2, 1) := by decide +kernel
theorem dL_law_292 : decode cL_law 292 = .ok (.aload_n 0, 1) := by decide +kernel
theorem dL_law_293 : decode cL_law 293 = .ok (.iload_n 3, 1) := by decide +kernel
theorem dL_law_294 : decode cL_law 294 = .ok (.iconst 1, 1) := by decide +kernel
theorem dL_law_295 : decode cL_law 295 = .ok (.iadd, 1) := by decide +kernel
theorem dL_law_296 : decode cL_law 296 = .ok (.iaload, 1) := by decide +kernel
theorem dL_law_297 : decode cL_law 297 = .ok (.aload_n 0, 1) := by decide +kernel
theorem dL_law_298 : decode cL_law 298 = .ok (.iload_n 3, 1) := by decide +kernel
theorem dL_law_299 : decode cL_law 299 = .ok (.iconst 2, 1) := by decide +kernel
theorem dL_law_300 : decode cL_law 300 = .ok (.iadd, 1) := by decide +kernel
theorem dL_law_301 : decode cL_law 301 = .ok (.iaload, 1) := by decide +kernel
theorem dL_law_302 : decode cL_law 302 = .ok (.aload_n 0, 1) := by decide +kernel
theorem dL_law_303 : decode cL_law 303 = .ok (.iload_n 3, 1) := by decide +kernel
theorem dL_law_304 : decode cL_law 304 = .ok (.iconst 3, 1) := by decide +kernel
theorem dL_law_305 : decode cL_law 305 = .ok (.iadd, 1) := by decide +kernel
theorem dL_law_306 : decode cL_law 306 = .ok (.iaload, 1) := by decide +kernel
theorem dL_law_307 : decode cL_law 307 = .ok (.aload_n 0, 1) := by decide +kernel
theorem dL_law_308 : decode cL_law 308 = .ok (.iload_n 3, 1) := by decide +kernel
theorem dL_law_309 : decode cL_law 309 = .ok (.iconst 4, 1) := by decide +kernel
theorem dL_law_310 : decode cL_law 310 = .ok (.iadd, 1) := by decide +kernel
theorem dL_law_311 : decode cL_law 311 = .ok (.iaload, 1) := by decide +kernel
theorem dL_law_312 : decode cL_law 312 = .ok (.aload_n 0, 1) := by decide +kernel
theorem dL_law_313 : decode cL_law 313 = .ok (.iload_n 3, 1) := by decide +kernel
theorem dL_law_314 : decode cL_law 314 = .ok (.iconst 5, 1) := by decide +kernel
theorem dL_law_315 : decode cL_law 315 = .ok (.iadd, 1) := by decide +kernel
theorem dL_law_316 : decode cL_law 316 = .ok (.iaload, 1) := by decide +kernel
theorem dL_law_317 : decode cL_law 317 = .ok (.invokevirtual 35, 3) := by decide +kernel
theorem dL_law_320 : decode cL_law 320 = .ok (.if_icmp .eq 655, 3) := by decide +kernel
set_option maxRecDepth 100000 in
theorem q_1294 : (.code yX12_move cX12_move 8 (some .int)) ∈ lw_all := List.mem_filter.mpr ⟨List.mem_of_getElem? (i := 1294) (rfl), by decide +kernel⟩
set_option maxRecDepth 100000 in
theorem q_486 : (.code yX11_move cX11_move 7 (some .int)) ∈ lw_all := List.mem_filter.mpr ⟨List.mem_of_getElem? (i := 486) (rfl), by decide +kernel⟩
set_option maxRecDepth 100000 in
theorem q_1292 : (.instanceMethod yX12_move) ∈ lw_all := List.mem_filter.mpr ⟨List.mem_of_getElem? (i := 1292) (by decide +kernel), by decide +kernel⟩
set_option maxRecDepth 100000 in
theorem q_484 : (.instanceMethod yX11_move) ∈ lw_all := List.mem_filter.mpr ⟨List.mem_of_getElem? (i := 484) (by decide +kernel), by decide +kernel⟩
set_option maxRecDepth 100000 in
theorem q_483 : (.methodLink RL 31 yX11_move) ∈ lw_all := List.mem_filter.mpr ⟨List.mem_of_getElem? (i := 483) (by decide +kernel), by decide +kernel⟩
set_option maxRecDepth 100000 in
theorem q_1291 : (.methodLink RL 35 yX12_move) ∈ lw_all := List.mem_filter.mpr ⟨List.mem_of_getElem? (i := 1291) (by decide +kernel), by decide +kernel⟩
set_option maxRecDepth 100000 in
theorem q_485 : (.selects RX11 yX11_move yX11_move) ∈ lw_all := List.mem_filter.mpr ⟨List.mem_of_getElem? (i := 485) (by decide +kernel), by decide +kernel⟩
set_option maxRecDepth 100000 in
theorem q_1293 : (.selects RX12 yX12_move yX12_move) ∈ lw_all := List.mem_filter.mpr ⟨List.mem_of_getElem? (i := 1293) (by decide +kernel), by decide +kernel⟩
set_option maxHeartbeats 4000000 in
set_option maxRecDepth 100000 in
theorem law_move {p : Program} {e : Env} {s : State} {m : MethodId} {below : List Frame} {meth : Method} {c : Code} (l : Launch) {b : Nat} {zs : Nat → Int32} (C0 : lw_At p s m meth c b 6 zs) {D : va_G} {cI cQ cM cR : ClassId} (hK : va_K D vwCl (TY cI cQ cM cR) s) {A : Nat → Prop} (hAd : ∀ q : Nat, A q ↔ s.heap.size ≤ q) {x0 nme sme xr xs nho ndk nsh nmi nba nde nbu nhw nhs m0 gweight gpresent gspeeches gbuffer gstate gplace gmover gpart gamended gmany gclause gfirstMany gfirstClause gresolution gmotion gaway gawayMany gawayOrder gtable gcommittee glone gentry gchange gyesBy gnoBy gdraft grow growMany growFloats gsaved : Nat} {H : Heap} {locs : List Loc} (hS : va_S A s.heap H locs) (hP : va_P D vwCl [(x0, .inr (11, [.ref nme, .ref sme, .int 0, .ref xr, .ref xs])), (nme, .inr (4, [.ref nho, .ref ndk, .ref nsh, .ref nmi, .ref nba, .ref nde, .ref nbu, .int 1, .int 0, .null, .int 0, .int 0, .int 0])), (nho, .inr (3, [.int 0, .int 50, .int 0, .ref nhw, .ref nhs])), (m0, .inr (12, [.ref gweight, .ref gpresent, .ref gspeeches, .int 0, .int 50, .int 0, .int 0, .ref gbuffer, .ref gstate, .ref gplace, .ref gmover, .ref gpart, .ref gamended, .ref gmany, .ref gclause, .ref gfirstMany, .ref gfirstClause, .int 0, .int 0, .int 0, .int (-1), .ref gresolution, .ref gmotion, .ref gaway, .ref gawayMany, .ref gawayOrder, .ref gtable, .ref gcommittee, .int 0, .int 0, .int 0, .int 0, .int 0, .int 0, .int 0, .int 0, .int (-5), .int 0, .int 0, .ref glone, .int 0, .ref gentry, .ref gchange, .int 0, .int (-1), .int 0, .int 0, .ref gyesBy, .ref gnoBy, .int 0, .int 0, .int 0, .int 0, .int 0, .int 0, .ref gdraft, .ref grow, .ref growMany, .ref growFloats, .ref gsaved, .int 0, .int 0, .int 0]))] H) (hD : va_D A [(x0, .inr (11, [.ref nme, .ref sme, .int 0, .ref xr, .ref xs])), (nme, .inr (4, [.ref nho, .ref ndk, .ref nsh, .ref nmi, .ref nba, .ref nde, .ref nbu, .int 1, .int 0, .null, .int 0, .int 0, .int 0])), (nho, .inr (3, [.int 0, .int 50, .int 0, .ref nhw, .ref nhs])), (m0, .inr (12, [.ref gweight, .ref gpresent, .ref gspeeches, .int 0, .int 50, .int 0, .int 0, .ref gbuffer, .ref gstate, .ref gplace, .ref gmover, .ref gpart, .ref gamended, .ref gmany, .ref gclause, .ref gfirstMany, .ref gfirstClause, .int 0, .int 0, .int 0, .int (-1), .ref gresolution, .ref gmotion, .ref gaway, .ref gawayMany, .ref gawayOrder, .ref gtable, .ref gcommittee, .int 0, .int 0, .int 0, .int 0, .int 0, .int 0, .int 0, .int 0, .int (-5), .int 0, .int 0, .ref glone, .int 0, .ref gentry, .ref gchange, .int 0, .int (-1), .int 0, .int 0, .ref gyesBy, .ref gnoBy, .int 0, .int 0, .int 0, .int 0, .int 0, .int 0, .ref gdraft, .ref grow, .ref growMany, .ref growFloats, .ref gsaved, .int 0, .int 0, .int 0]))]) {ls : Array Slot} (hl : lv_has ls 4 [(3, .int 0), (2, .ref m0), (1, .ref x0), (0, .ref b)]) : W p l e room_1 s m #[Value.ref b] below meth c H locs 289 13007 (lw_Z below #[Value.ref b] s) (F0 m 262 ls []) := by
  obtain ⟨hx, hb, hr, hml, hown0, hts0, hX, hbl, hlocks, hgv⟩ := id C0
  have hown : s.vm.findClass RL = some m.cls := hown0
  have hts : ∀ w ∈ lw_all, w.before _ s = true := fun w h => hts0 w (List.mem_filter.mp h).1
  have hA : ∀ q : Nat, s.heap.size ≤ q → A q := fun q h => (hAd q).mpr h
  have hbA : ¬ A b := fun h => absurd ((hAd b).mp h) (Nat.not_le.mpr hbl)
  refine lv_aload_n hx hb dL_law_262 rfl (lv_at hl 2 rfl) ?_
  refine lv_aload_n hx hb dL_law_263 rfl (lv_at hl 3 rfl) ?_
  refine lv_iload_n hx hb dL_law_264 rfl (lv_at hl 0 rfl) ?_
  refine lv_iconst (v := 1) hx hb dL_law_265 (by decide) ?_
  refine lv_iadd hx hb dL_law_266 ?_
  refine lv_cst (v := 1) (by decide) ?_
  refine va_sld hx hb hX hbl hbA hS (i := 1) (by unfold vp_in; decide) dL_law_267 ?_
  refine lv_cst (v := zs 1) rfl ?_
  refine lv_aload_n hx hb dL_law_268 rfl (lv_at hl 3 rfl) ?_
  refine lv_iload_n hx hb dL_law_269 rfl (lv_at hl 0 rfl) ?_
  refine lv_iconst (v := 2) hx hb dL_law_270 (by decide) ?_
  refine lv_iadd hx hb dL_law_271 ?_
  refine lv_cst (v := 2) (by decide) ?_
  refine va_sld hx hb hX hbl hbA hS (i := 2) (by unfold vp_in; decide) dL_law_272 ?_
  refine lv_cst (v := zs 2) rfl ?_
  refine lv_aload_n hx hb dL_law_273 rfl (lv_at hl 3 rfl) ?_
  refine lv_iload_n hx hb dL_law_274 rfl (lv_at hl 0 rfl) ?_
  refine lv_iconst (v := 3) hx hb dL_law_275 (by decide) ?_
  refine lv_iadd hx hb dL_law_276 ?_
  refine lv_cst (v := 3) (by decide) ?_
  refine va_sld hx hb hX hbl hbA hS (i := 3) (by unfold vp_in; decide) dL_law_277 ?_
  refine lv_cst (v := zs 3) rfl ?_
  refine lv_aload_n hx hb dL_law_278 rfl (lv_at hl 3 rfl) ?_
  refine lv_iload_n hx hb dL_law_279 rfl (lv_at hl 0 rfl) ?_
  refine lv_iconst (v := 4) hx hb dL_law_280 (by decide) ?_
  refine lv_iadd hx hb dL_law_281 ?_
  refine lv_cst (v := 4) (by decide) ?_
  refine va_sld hx hb hX hbl hbA hS (i := 4) (by unfold vp_in; decide) dL_law_282 ?_
  refine lv_cst (v := zs 4) rfl ?_
  refine lv_aload_n hx hb dL_law_283 rfl (lv_at hl 3 rfl) ?_
  refine lv_iload_n hx hb dL_law_284 rfl (lv_at hl 0 rfl) ?_
  refine lv_iconst (v := 5) hx hb dL_law_285 (by decide) ?_
  refine lv_iadd hx hb dL_law_286 ?_
  refine lv_cst (v := 5) (by decide) ?_
  refine va_sld hx hb hX hbl hbA hS (i := 5) (by unfold vp_in; decide) dL_law_287 ?_
  refine lv_cst (v := zs 5) rfl ?_
  refine p_call (va_runV (As := [.int (zs 1), .int (zs 2), .int (zs 3), .int (zs 4), .int (zs 5)]) (rest := []) ⟨hx, hb, hml, hown, hts⟩ (c_X11_move l D cI cQ cM cR x0 nme sme xr xs nho ndk nsh nmi nba nde nbu nhw nhs (zs 1) (zs 2) (zs 3) (zs 4) (zs 5)) (cwV 5 hts (gV q_483 q_484 q_485 q_65 q_486) rfl rfl rfl (by decide +kernel) ⟨Nat.le_of_ble_eq_true rfl, Nat.le_of_ble_eq_true rfl⟩) ⟨PP_blind, va_recv hK hP (ci := 11) (q0 := 0) rfl rfl, PP_of hK (hP.sub [0, 1, 2] rfl)⟩ rfl rfl hl.1 rfl (lv_room (Nat.le_of_ble_eq_true rfl)) dL_law_288 ⟨Nat.le_of_ble_eq_true rfl, Nat.le_of_ble_eq_true rfl⟩) ?_
  refine lv_aload_n hx hb dL_law_291 rfl (lv_at hl 1 rfl) ?_
  refine lv_aload_n hx hb dL_law_292 rfl (lv_at hl 3 rfl) ?_
  refine lv_iload_n hx hb dL_law_293 rfl (lv_at hl 0 rfl) ?_
  refine lv_iconst (v := 1) hx hb dL_law_294 (by decide) ?_
  refine lv_iadd hx hb dL_law_295 ?_
  refine lv_cst (v := 1) (by decide) ?_
  refine va_sld hx hb hX hbl hbA hS (i := 1) (by unfold vp_in; decide) dL_law_296 ?_
  refine lv_cst (v := zs 1) rfl ?_
  refine lv_aload_n hx hb dL_law_297 rfl (lv_at hl 3 rfl) ?_
  refine lv_iload_n hx hb dL_law_298 rfl (lv_at hl 0 rfl) ?_
  refine lv_iconst (v := 2) hx hb dL_law_299 (by decide) ?_
  refine lv_iadd hx hb dL_law_300 ?_
  refine lv_cst (v := 2) (by decide) ?_
  refine va_sld hx hb hX hbl hbA hS (i := 2) (by unfold vp_in; decide) dL_law_301 ?_
  refine lv_cst (v := zs 2) rfl ?_
  refine lv_aload_n hx hb dL_law_302 rfl (lv_at hl 3 rfl) ?_
  refine lv_iload_n hx hb dL_law_303 rfl (lv_at hl 0 rfl) ?_
  refine lv_iconst (v := 3) hx hb dL_law_304 (by decide) ?_
  refine lv_iadd hx hb dL_law_305 ?_
  refine lv_cst (v := 3) (by decide) ?_
  refine va_sld hx hb hX hbl hbA hS (i := 3) (by unfold vp_in; decide) dL_law_306 ?_
  refine lv_cst (v := zs 3) rfl ?_
  refine lv_aload_n hx hb dL_law_307 rfl (lv_at hl 3 rfl) ?_
  refine lv_iload_n hx hb dL_law_308 rfl (lv_at hl 0 rfl) ?_
  refine lv_iconst (v := 4) hx hb dL_law_309 (by decide) ?_
  refine lv_iadd hx hb dL_law_310 ?_
  refine lv_cst (v := 4) (by decide) ?_
  refine va_sld hx hb hX hbl hbA hS (i := 4) (by unfold vp_in; decide) dL_law_311 ?_
  refine lv_cst (v := zs 4) rfl ?_
  refine lv_aload_n hx hb dL_law_312 rfl (lv_at hl 3 rfl) ?_
  refine lv_iload_n hx hb dL_law_313 rfl (lv_at hl 0 rfl) ?_
  refine lv_iconst (v := 5) hx hb dL_law_314 (by decide) ?_
  refine lv_iadd hx hb dL_law_315 ?_
  refine lv_cst (v := 5) (by decide) ?_
  refine va_sld hx hb hX hbl hbA hS (i := 5) (by unfold vp_in; decide) dL_law_316 ?_
  refine lv_cst (v := zs 5) rfl ?_
  refine p_call (va_runV (As := [.int (zs 1), .int (zs 2), .int (zs 3), .int (zs 4), .int (zs 5)]) (rest := [.int (-1)]) ⟨hx, hb, hml, hown, hts⟩ (c_X12_move l D cI cQ cM cR m0 gweight gpresent gspeeches gbuffer gstate gplace gmover gpart gamended gmany gclause gfirstMany gfirstClause gresolution gmotion gaway gawayMany gawayOrder gtable gcommittee glone gentry gchange gyesBy gnoBy gdraft grow growMany growFloats gsaved (zs 1) (zs 2) (zs 3) (zs 4) (zs 5)) (cwV 5 hts (gV q_1291 q_1292 q_1293 q_76 q_1294) rfl rfl rfl (by decide +kernel) ⟨Nat.le_of_ble_eq_true rfl, Nat.le_of_ble_eq_true rfl⟩) ⟨PP_blind, va_recv hK hP (ci := 12) (q0 := 3) rfl rfl, PP_of hK (hP.sub [3] rfl)⟩ rfl rfl hl.1 rfl (lv_room (Nat.le_of_ble_eq_true rfl)) dL_law_317 ⟨Nat.le_of_ble_eq_true rfl, Nat.le_of_ble_eq_true rfl⟩) ?_
  refine lv_icmp_eq (tgt := 975) hx hb dL_law_320 (by decide) (fun _ => ?_) (fun c9 => absurd (by decide) c9)
  exact law_end l C0 hK hAd hS hl
theorem dL_law_325 : decode cL_law 325 = .ok (.aload_n 1, 1) := by decide +kernel
theorem dL_law_326 : decode cL_law 326 = .ok (.aload_n 0, 1) := by decide +kernel
theorem dL_law_327 : decode cL_law 327 = .ok (.iload_n 3, 1) := by decide +kernel
theorem dL_law_328 : decode cL_law 328 = .ok (.iconst 1, 1) := by decide +kernel
theorem dL_law_329 : decode cL_law 329 = .ok (.iadd, 1) := by decide +kernel
theorem dL_law_330 : decode cL_law 330 = .ok (.iaload, 1) := by decide +kernel
theorem dL_law_331 : decode cL_law 331 = .ok (.aload_n 0, 1) := by decide +kernel
theorem dL_law_332 : decode cL_law 332 = .ok (.iload_n 3, 1) := by decide +kernel
theorem dL_law_333 : decode cL_law 333 = .ok (.iconst 2, 1) := by decide +kernel
theorem dL_law_334 : decode cL_law 334 = .ok (.iadd, 1) := by decide +kernel
theorem dL_law_335 : decode cL_law 335 = .ok (.iaload, 1) := by decide +kernel
theorem dL_law_336 : decode cL_law 336 = .ok (.invokevirtual 36, 3) := by decide +kernel
theorem dL_law_339 : decode cL_law 339 = .ok (.aload_n 2, 1) := by decide +kernel
theorem dL_law_340 : decode cL_law 340 = .ok (.aload_n 0, 1) := by decide +kernel
theorem dL_law_341 : decode cL_law 341 = .ok (.iload_n 3, 1) := by decide +kernel
theorem dL_law_342 : decode cL_law 342 = .ok (.iconst 1, 1) := by decide +kernel
theorem dL_law_343 : decode cL_law 343 = .ok (.iadd, 1) := by decide +kernel
theorem dL_law_344 : decode cL_law 344 = .ok (.iaload, 1) := by decide +kernel
theorem dL_law_345 : decode cL_law 345 = .ok (.aload_n 0, 1) := by decide +kernel
theorem dL_law_346 : decode cL_law 346 = .ok (.iload_n 3, 1) := by decide +kernel
theorem dL_law_347 : decode cL_law 347 = .ok (.iconst 2, 1) := by decide +kernel
theorem dL_law_348 : decode cL_law 348 = .ok (.iadd, 1) := by decide +kernel
theorem dL_law_349 : decode cL_law 349 = .ok (.iaload, 1) := by decide +kernel
theorem dL_law_350 : decode cL_law 350 = .ok (.invokevirtual 39, 3) := by decide +kernel
theorem dL_law_353 : decode cL_law 353 = .ok (.if_icmp .eq 622, 3) := by decide +kernel
set_option maxRecDepth 100000 in
theorem q_1318 : (.code yX12_decide cX12_decide 12 (some .int)) ∈ lw_all := List.mem_filter.mpr ⟨List.mem_of_getElem? (i := 1318) (rfl), by decide +kernel⟩
set_option maxRecDepth 100000 in
theorem q_685 : (.code yX11_decide cX11_decide 4 (some .int)) ∈ lw_all := List.mem_filter.mpr ⟨List.mem_of_getElem? (i := 685) (rfl), by decide +kernel⟩
set_option maxRecDepth 100000 in
theorem q_1316 : (.instanceMethod yX12_decide) ∈ lw_all := List.mem_filter.mpr ⟨List.mem_of_getElem? (i := 1316) (by decide +kernel), by decide +kernel⟩
set_option maxRecDepth 100000 in
theorem q_683 : (.instanceMethod yX11_decide) ∈ lw_all := List.mem_filter.mpr ⟨List.mem_of_getElem? (i := 683) (by decide +kernel), by decide +kernel⟩
set_option maxRecDepth 100000 in
theorem q_682 : (.methodLink RL 36 yX11_decide) ∈ lw_all := List.mem_filter.mpr ⟨List.mem_of_getElem? (i := 682) (by decide +kernel), by decide +kernel⟩
set_option maxRecDepth 100000 in
theorem q_1315 : (.methodLink RL 39 yX12_decide) ∈ lw_all := List.mem_filter.mpr ⟨List.mem_of_getElem? (i := 1315) (by decide +kernel), by decide +kernel⟩
set_option maxRecDepth 100000 in
theorem q_684 : (.selects RX11 yX11_decide yX11_decide) ∈ lw_all := List.mem_filter.mpr ⟨List.mem_of_getElem? (i := 684) (by decide +kernel), by decide +kernel⟩
set_option maxRecDepth 100000 in
theorem q_1317 : (.selects RX12 yX12_decide yX12_decide) ∈ lw_all := List.mem_filter.mpr ⟨List.mem_of_getElem? (i := 1317) (by decide +kernel), by decide +kernel⟩
set_option maxHeartbeats 4000000 in
set_option maxRecDepth 100000 in
theorem law_decide {p : Program} {e : Env} {s : State} {m : MethodId} {below : List Frame} {meth : Method} {c : Code} (l : Launch) {b : Nat} {zs : Nat → Int32} (C0 : lw_At p s m meth c b 6 zs) {D : va_G} {cI cQ cM cR : ClassId} (hK : va_K D vwCl (TY cI cQ cM cR) s) {A : Nat → Prop} (hAd : ∀ q : Nat, A q ↔ s.heap.size ≤ q) {x0 nme sme xr xs nho ndk nsh nmi nba nde nbu nhw nhs m0 gweight gpresent gspeeches gbuffer gstate gplace gmover gpart gamended gmany gclause gfirstMany gfirstClause gresolution gmotion gaway gawayMany gawayOrder gtable gcommittee glone gentry gchange gyesBy gnoBy gdraft grow growMany growFloats gsaved : Nat} {H : Heap} {locs : List Loc} (hS : va_S A s.heap H locs) (hP : va_P D vwCl [(x0, .inr (11, [.ref nme, .ref sme, .int 0, .ref xr, .ref xs])), (nme, .inr (4, [.ref nho, .ref ndk, .ref nsh, .ref nmi, .ref nba, .ref nde, .ref nbu, .int 1, .int 0, .null, .int 0, .int 0, .int 0])), (nho, .inr (3, [.int 0, .int 50, .int 0, .ref nhw, .ref nhs])), (m0, .inr (12, [.ref gweight, .ref gpresent, .ref gspeeches, .int 0, .int 50, .int 0, .int 0, .ref gbuffer, .ref gstate, .ref gplace, .ref gmover, .ref gpart, .ref gamended, .ref gmany, .ref gclause, .ref gfirstMany, .ref gfirstClause, .int 0, .int 0, .int 0, .int (-1), .ref gresolution, .ref gmotion, .ref gaway, .ref gawayMany, .ref gawayOrder, .ref gtable, .ref gcommittee, .int 0, .int 0, .int 0, .int 0, .int 0, .int 0, .int 0, .int 0, .int (-5), .int 0, .int 0, .ref glone, .int 0, .ref gentry, .ref gchange, .int 0, .int (-1), .int 0, .int 0, .ref gyesBy, .ref gnoBy, .int 0, .int 0, .int 0, .int 0, .int 0, .int 0, .ref gdraft, .ref grow, .ref growMany, .ref growFloats, .ref gsaved, .int 0, .int 0, .int 0]))] H) (hD : va_D A [(x0, .inr (11, [.ref nme, .ref sme, .int 0, .ref xr, .ref xs])), (nme, .inr (4, [.ref nho, .ref ndk, .ref nsh, .ref nmi, .ref nba, .ref nde, .ref nbu, .int 1, .int 0, .null, .int 0, .int 0, .int 0])), (nho, .inr (3, [.int 0, .int 50, .int 0, .ref nhw, .ref nhs])), (m0, .inr (12, [.ref gweight, .ref gpresent, .ref gspeeches, .int 0, .int 50, .int 0, .int 0, .ref gbuffer, .ref gstate, .ref gplace, .ref gmover, .ref gpart, .ref gamended, .ref gmany, .ref gclause, .ref gfirstMany, .ref gfirstClause, .int 0, .int 0, .int 0, .int (-1), .ref gresolution, .ref gmotion, .ref gaway, .ref gawayMany, .ref gawayOrder, .ref gtable, .ref gcommittee, .int 0, .int 0, .int 0, .int 0, .int 0, .int 0, .int 0, .int 0, .int (-5), .int 0, .int 0, .ref glone, .int 0, .ref gentry, .ref gchange, .int 0, .int (-1), .int 0, .int 0, .ref gyesBy, .ref gnoBy, .int 0, .int 0, .int 0, .int 0, .int 0, .int 0, .ref gdraft, .ref grow, .ref growMany, .ref growFloats, .ref gsaved, .int 0, .int 0, .int 0]))]) {ls : Array Slot} (hl : lv_has ls 4 [(3, .int 0), (2, .ref m0), (1, .ref x0), (0, .ref b)]) : W p l e room_1 s m #[Value.ref b] below meth c H locs 289 13007 (lw_Z below #[Value.ref b] s) (F0 m 325 ls []) := by
  obtain ⟨hx, hb, hr, hml, hown0, hts0, hX, hbl, hlocks, hgv⟩ := id C0
  have hown : s.vm.findClass RL = some m.cls := hown0
  have hts : ∀ w ∈ lw_all, w.before _ s = true := fun w h => hts0 w (List.mem_filter.mp h).1
  have hA : ∀ q : Nat, s.heap.size ≤ q → A q := fun q h => (hAd q).mpr h
  have hbA : ¬ A b := fun h => absurd ((hAd b).mp h) (Nat.not_le.mpr hbl)
  refine lv_aload_n hx hb dL_law_325 rfl (lv_at hl 2 rfl) ?_
  refine lv_aload_n hx hb dL_law_326 rfl (lv_at hl 3 rfl) ?_
  refine lv_iload_n hx hb dL_law_327 rfl (lv_at hl 0 rfl) ?_
  refine lv_iconst (v := 1) hx hb dL_law_328 (by decide) ?_
  refine lv_iadd hx hb dL_law_329 ?_
  refine lv_cst (v := 1) (by decide) ?_
  refine va_sld hx hb hX hbl hbA hS (i := 1) (by unfold vp_in; decide) dL_law_330 ?_
  refine lv_cst (v := zs 1) rfl ?_
  refine lv_aload_n hx hb dL_law_331 rfl (lv_at hl 3 rfl) ?_
  refine lv_iload_n hx hb dL_law_332 rfl (lv_at hl 0 rfl) ?_
  refine lv_iconst (v := 2) hx hb dL_law_333 (by decide) ?_
  refine lv_iadd hx hb dL_law_334 ?_
  refine lv_cst (v := 2) (by decide) ?_
  refine va_sld hx hb hX hbl hbA hS (i := 2) (by unfold vp_in; decide) dL_law_335 ?_
  refine lv_cst (v := zs 2) rfl ?_
  refine p_call (va_runV (As := [.int (zs 1), .int (zs 2)]) (rest := []) ⟨hx, hb, hml, hown, hts⟩ (c_X11_decide l D cI cQ cM cR x0 nme sme xr xs nho ndk nsh nmi nba nde nbu nhw nhs (zs 1) (zs 2)) (cwV 2 hts (gV q_682 q_683 q_684 q_65 q_685) rfl rfl rfl (by decide +kernel) ⟨Nat.le_of_ble_eq_true rfl, Nat.le_of_ble_eq_true rfl⟩) ⟨PP_blind, va_recv hK hP (ci := 11) (q0 := 0) rfl rfl, PP_of hK (hP.sub [0, 1, 2] rfl)⟩ rfl rfl hl.1 rfl (lv_room (Nat.le_of_ble_eq_true rfl)) dL_law_336 ⟨Nat.le_of_ble_eq_true rfl, Nat.le_of_ble_eq_true rfl⟩) ?_
  refine lv_aload_n hx hb dL_law_339 rfl (lv_at hl 1 rfl) ?_
  refine lv_aload_n hx hb dL_law_340 rfl (lv_at hl 3 rfl) ?_
  refine lv_iload_n hx hb dL_law_341 rfl (lv_at hl 0 rfl) ?_
  refine lv_iconst (v := 1) hx hb dL_law_342 (by decide) ?_
  refine lv_iadd hx hb dL_law_343 ?_
  refine lv_cst (v := 1) (by decide) ?_
  refine va_sld hx hb hX hbl hbA hS (i := 1) (by unfold vp_in; decide) dL_law_344 ?_
  refine lv_cst (v := zs 1) rfl ?_
  refine lv_aload_n hx hb dL_law_345 rfl (lv_at hl 3 rfl) ?_
  refine lv_iload_n hx hb dL_law_346 rfl (lv_at hl 0 rfl) ?_
  refine lv_iconst (v := 2) hx hb dL_law_347 (by decide) ?_
  refine lv_iadd hx hb dL_law_348 ?_
  refine lv_cst (v := 2) (by decide) ?_
  refine va_sld hx hb hX hbl hbA hS (i := 2) (by unfold vp_in; decide) dL_law_349 ?_
  refine lv_cst (v := zs 2) rfl ?_
  refine p_call (va_runV (As := [.int (zs 1), .int (zs 2)]) (rest := [.int (sp_decide (zs 1) (zs 2))]) ⟨hx, hb, hml, hown, hts⟩ (c_X12_decide l D cI cQ cM cR m0 gweight gpresent gspeeches gbuffer gstate gplace gmover gpart gamended gmany gclause gfirstMany gfirstClause gresolution gmotion gaway gawayMany gawayOrder gtable gcommittee glone gentry gchange gyesBy gnoBy gdraft grow growMany growFloats gsaved (zs 1) (zs 2)) (cwV 2 hts (gV q_1315 q_1316 q_1317 q_76 q_1318) rfl rfl rfl (by decide +kernel) ⟨Nat.le_of_ble_eq_true rfl, Nat.le_of_ble_eq_true rfl⟩) ⟨PP_blind, va_recv hK hP (ci := 12) (q0 := 3) rfl rfl, PP_of hK (hP.sub [3] rfl)⟩ rfl rfl hl.1 rfl (lv_room (Nat.le_of_ble_eq_true rfl)) dL_law_350 ⟨Nat.le_of_ble_eq_true rfl, Nat.le_of_ble_eq_true rfl⟩) ?_
  refine lv_icmp_eq (tgt := 975) hx hb dL_law_353 (by decide) (fun _ => ?_) (fun c9 => absurd (rfl) c9)
  exact law_end l C0 hK hAd hS hl
theorem dL_law_358 : decode cL_law 358 = .ok (.aload_n 1, 1) := by decide +kernel
theorem dL_law_359 : decode cL_law 359 = .ok (.aload_n 0, 1) := by decide +kernel
theorem dL_law_360 : decode cL_law 360 = .ok (.iload_n 3, 1) := by decide +kernel
theorem dL_law_361 : decode cL_law 361 = .ok (.iconst 1, 1) := by decide +kernel
theorem dL_law_362 : decode cL_law 362 = .ok (.iadd, 1) := by decide +kernel
theorem dL_law_363 : decode cL_law 363 = .ok (.iaload, 1) := by decide +kernel
theorem dL_law_364 : decode cL_law 364 = .ok (.invokevirtual 40, 3) := by decide +kernel
theorem dL_law_367 : decode cL_law 367 = .ok (.aload_n 2, 1) := by decide +kernel
theorem dL_law_368 : decode cL_law 368 = .ok (.aload_n 0, 1) := by decide +kernel
theorem dL_law_369 : decode cL_law 369 = .ok (.iload_n 3, 1) := by decide +kernel
theorem dL_law_370 : decode cL_law 370 = .ok (.iconst 1, 1) := by decide +kernel
theorem dL_law_371 : decode cL_law 371 = .ok (.iadd, 1) := by decide +kernel
theorem dL_law_372 : decode cL_law 372 = .ok (.iaload, 1) := by decide +kernel
theorem dL_law_373 : decode cL_law 373 = .ok (.invokevirtual 43, 3) := by decide +kernel
theorem dL_law_376 : decode cL_law 376 = .ok (.if_icmp .eq 599, 3) := by decide +kernel
set_option maxRecDepth 100000 in
theorem q_1372 : (.code yX12_speak cX12_speak 2 (some .int)) ∈ lw_all := List.mem_filter.mpr ⟨List.mem_of_getElem? (i := 1372) (rfl), by decide +kernel⟩
set_option maxRecDepth 100000 in
theorem q_791 : (.code yX11_speak cX11_speak 2 (some .int)) ∈ lw_all := List.mem_filter.mpr ⟨List.mem_of_getElem? (i := 791) (rfl), by decide +kernel⟩
set_option maxRecDepth 100000 in
theorem q_1370 : (.instanceMethod yX12_speak) ∈ lw_all := List.mem_filter.mpr ⟨List.mem_of_getElem? (i := 1370) (by decide +kernel), by decide +kernel⟩
set_option maxRecDepth 100000 in
theorem q_789 : (.instanceMethod yX11_speak) ∈ lw_all := List.mem_filter.mpr ⟨List.mem_of_getElem? (i := 789) (by decide +kernel), by decide +kernel⟩
set_option maxRecDepth 100000 in
theorem q_788 : (.methodLink RL 40 yX11_speak) ∈ lw_all := List.mem_filter.mpr ⟨List.mem_of_getElem? (i := 788) (by decide +kernel), by decide +kernel⟩
set_option maxRecDepth 100000 in
theorem q_1369 : (.methodLink RL 43 yX12_speak) ∈ lw_all := List.mem_filter.mpr ⟨List.mem_of_getElem? (i := 1369) (by decide +kernel), by decide +kernel⟩
set_option maxRecDepth 100000 in
theorem q_790 : (.selects RX11 yX11_speak yX11_speak) ∈ lw_all := List.mem_filter.mpr ⟨List.mem_of_getElem? (i := 790) (by decide +kernel), by decide +kernel⟩
set_option maxRecDepth 100000 in
theorem q_1371 : (.selects RX12 yX12_speak yX12_speak) ∈ lw_all := List.mem_filter.mpr ⟨List.mem_of_getElem? (i := 1371) (by decide +kernel), by decide +kernel⟩
set_option maxHeartbeats 4000000 in
set_option maxRecDepth 100000 in
theorem law_speak {p : Program} {e : Env} {s : State} {m : MethodId} {below : List Frame} {meth : Method} {c : Code} (l : Launch) {b : Nat} {zs : Nat → Int32} (C0 : lw_At p s m meth c b 6 zs) {D : va_G} {cI cQ cM cR : ClassId} (hK : va_K D vwCl (TY cI cQ cM cR) s) {A : Nat → Prop} (hAd : ∀ q : Nat, A q ↔ s.heap.size ≤ q) {x0 nme sme xr xs nho ndk nsh nmi nba nde nbu nhw nhs m0 gweight gpresent gspeeches gbuffer gstate gplace gmover gpart gamended gmany gclause gfirstMany gfirstClause gresolution gmotion gaway gawayMany gawayOrder gtable gcommittee glone gentry gchange gyesBy gnoBy gdraft grow growMany growFloats gsaved : Nat} {H : Heap} {locs : List Loc} (hS : va_S A s.heap H locs) (hP : va_P D vwCl [(x0, .inr (11, [.ref nme, .ref sme, .int 0, .ref xr, .ref xs])), (nme, .inr (4, [.ref nho, .ref ndk, .ref nsh, .ref nmi, .ref nba, .ref nde, .ref nbu, .int 1, .int 0, .null, .int 0, .int 0, .int 0])), (nho, .inr (3, [.int 0, .int 50, .int 0, .ref nhw, .ref nhs])), (m0, .inr (12, [.ref gweight, .ref gpresent, .ref gspeeches, .int 0, .int 50, .int 0, .int 0, .ref gbuffer, .ref gstate, .ref gplace, .ref gmover, .ref gpart, .ref gamended, .ref gmany, .ref gclause, .ref gfirstMany, .ref gfirstClause, .int 0, .int 0, .int 0, .int (-1), .ref gresolution, .ref gmotion, .ref gaway, .ref gawayMany, .ref gawayOrder, .ref gtable, .ref gcommittee, .int 0, .int 0, .int 0, .int 0, .int 0, .int 0, .int 0, .int 0, .int (-5), .int 0, .int 0, .ref glone, .int 0, .ref gentry, .ref gchange, .int 0, .int (-1), .int 0, .int 0, .ref gyesBy, .ref gnoBy, .int 0, .int 0, .int 0, .int 0, .int 0, .int 0, .ref gdraft, .ref grow, .ref growMany, .ref growFloats, .ref gsaved, .int 0, .int 0, .int 0]))] H) (hD : va_D A [(x0, .inr (11, [.ref nme, .ref sme, .int 0, .ref xr, .ref xs])), (nme, .inr (4, [.ref nho, .ref ndk, .ref nsh, .ref nmi, .ref nba, .ref nde, .ref nbu, .int 1, .int 0, .null, .int 0, .int 0, .int 0])), (nho, .inr (3, [.int 0, .int 50, .int 0, .ref nhw, .ref nhs])), (m0, .inr (12, [.ref gweight, .ref gpresent, .ref gspeeches, .int 0, .int 50, .int 0, .int 0, .ref gbuffer, .ref gstate, .ref gplace, .ref gmover, .ref gpart, .ref gamended, .ref gmany, .ref gclause, .ref gfirstMany, .ref gfirstClause, .int 0, .int 0, .int 0, .int (-1), .ref gresolution, .ref gmotion, .ref gaway, .ref gawayMany, .ref gawayOrder, .ref gtable, .ref gcommittee, .int 0, .int 0, .int 0, .int 0, .int 0, .int 0, .int 0, .int 0, .int (-5), .int 0, .int 0, .ref glone, .int 0, .ref gentry, .ref gchange, .int 0, .int (-1), .int 0, .int 0, .ref gyesBy, .ref gnoBy, .int 0, .int 0, .int 0, .int 0, .int 0, .int 0, .ref gdraft, .ref grow, .ref growMany, .ref growFloats, .ref gsaved, .int 0, .int 0, .int 0]))]) {ls : Array Slot} (hl : lv_has ls 4 [(3, .int 0), (2, .ref m0), (1, .ref x0), (0, .ref b)]) : W p l e room_1 s m #[Value.ref b] below meth c H locs 289 13007 (lw_Z below #[Value.ref b] s) (F0 m 358 ls []) := by
  obtain ⟨hx, hb, hr, hml, hown0, hts0, hX, hbl, hlocks, hgv⟩ := id C0
  have hown : s.vm.findClass RL = some m.cls := hown0
  have hts : ∀ w ∈ lw_all, w.before _ s = true := fun w h => hts0 w (List.mem_filter.mp h).1
  have hA : ∀ q : Nat, s.heap.size ≤ q → A q := fun q h => (hAd q).mpr h
  have hbA : ¬ A b := fun h => absurd ((hAd b).mp h) (Nat.not_le.mpr hbl)
  refine lv_aload_n hx hb dL_law_358 rfl (lv_at hl 2 rfl) ?_
  refine lv_aload_n hx hb dL_law_359 rfl (lv_at hl 3 rfl) ?_
  refine lv_iload_n hx hb dL_law_360 rfl (lv_at hl 0 rfl) ?_
  refine lv_iconst (v := 1) hx hb dL_law_361 (by decide) ?_
  refine lv_iadd hx hb dL_law_362 ?_
  refine lv_cst (v := 1) (by decide) ?_
  refine va_sld hx hb hX hbl hbA hS (i := 1) (by unfold vp_in; decide) dL_law_363 ?_
  refine lv_cst (v := zs 1) rfl ?_
  refine p_call (va_runV (As := [.int (zs 1)]) (rest := []) ⟨hx, hb, hml, hown, hts⟩ (c_X11_speak l D cI cQ cM cR x0 nme sme xr xs nho ndk nsh nmi nba nde nbu nhw nhs (zs 1)) (cwV 1 hts (gV q_788 q_789 q_790 q_65 q_791) rfl rfl rfl (by decide +kernel) ⟨Nat.le_of_ble_eq_true rfl, Nat.le_of_ble_eq_true rfl⟩) ⟨PP_blind, va_recv hK hP (ci := 11) (q0 := 0) rfl rfl, PP_of hK (hP.sub [0, 1, 2] rfl)⟩ rfl rfl hl.1 rfl (lv_room (Nat.le_of_ble_eq_true rfl)) dL_law_364 ⟨Nat.le_of_ble_eq_true rfl, Nat.le_of_ble_eq_true rfl⟩) ?_
  refine lv_aload_n hx hb dL_law_367 rfl (lv_at hl 1 rfl) ?_
  refine lv_aload_n hx hb dL_law_368 rfl (lv_at hl 3 rfl) ?_
  refine lv_iload_n hx hb dL_law_369 rfl (lv_at hl 0 rfl) ?_
  refine lv_iconst (v := 1) hx hb dL_law_370 (by decide) ?_
  refine lv_iadd hx hb dL_law_371 ?_
  refine lv_cst (v := 1) (by decide) ?_
  refine va_sld hx hb hX hbl hbA hS (i := 1) (by unfold vp_in; decide) dL_law_372 ?_
  refine lv_cst (v := zs 1) rfl ?_
  refine p_call (va_runV (As := [.int (zs 1)]) (rest := [.int (-1)]) ⟨hx, hb, hml, hown, hts⟩ (c_X12_speak l D cI cQ cM cR m0 gweight gpresent gspeeches gbuffer gstate gplace gmover gpart gamended gmany gclause gfirstMany gfirstClause gresolution gmotion gaway gawayMany gawayOrder gtable gcommittee glone gentry gchange gyesBy gnoBy gdraft grow growMany growFloats gsaved (zs 1)) (cwV 1 hts (gV q_1369 q_1370 q_1371 q_76 q_1372) rfl rfl rfl (by decide +kernel) ⟨Nat.le_of_ble_eq_true rfl, Nat.le_of_ble_eq_true rfl⟩) ⟨PP_blind, va_recv hK hP (ci := 12) (q0 := 3) rfl rfl, PP_of hK (hP.sub [3] rfl)⟩ rfl rfl hl.1 rfl (lv_room (Nat.le_of_ble_eq_true rfl)) dL_law_373 ⟨Nat.le_of_ble_eq_true rfl, Nat.le_of_ble_eq_true rfl⟩) ?_
  refine lv_icmp_eq (tgt := 975) hx hb dL_law_376 (by decide) (fun _ => ?_) (fun c9 => absurd (by decide) c9)
  exact law_end l C0 hK hAd hS hl
theorem dL_law_381 : decode cL_law 381 = .ok (.aload_n 1, 1) := by decide +kernel
theorem dL_law_382 : decode cL_law 382 = .ok (.aload_n 0, 1) := by decide +kernel
theorem dL_law_383 : decode cL_law 383 = .ok (.iload_n 3, 1) := by decide +kernel
theorem dL_law_384 : decode cL_law 384 = .ok (.iconst 1, 1) := by decide +kernel
theorem dL_law_385 : decode cL_law 385 = .ok (.iadd, 1) := by decide +kernel
theorem dL_law_386 : decode cL_law 386 = .ok (.iaload, 1) := by decide +kernel
theorem dL_law_387 : decode cL_law 387 = .ok (.invokevirtual 44, 3) := by decide +kernel
theorem dL_law_390 : decode cL_law 390 = .ok (.aload_n 2, 1) := by decide +kernel
theorem dL_law_391 : decode cL_law 391 = .ok (.aload_n 0, 1) := by decide +kernel
theorem dL_law_392 : decode cL_law 392 = .ok (.iload_n 3, 1) := by decide +kernel
theorem dL_law_393 : decode cL_law 393 = .ok (.iconst 1, 1) := by decide +kernel
theorem dL_law_394 : decode cL_law 394 = .ok (.iadd, 1) := by decide +kernel
theorem dL_law_395 : decode cL_law 395 = .ok (.iaload, 1) := by decide +kernel
theorem dL_law_396 : decode cL_law 396 = .ok (.invokevirtual 47, 3) := by decide +kernel
theorem dL_law_399 : decode cL_law 399 = .ok (.if_icmp .eq 576, 3) := by decide +kernel
set_option maxRecDepth 100000 in
theorem q_1376 : (.code yX12_divide cX12_divide 4 (some .int)) ∈ lw_all := List.mem_filter.mpr ⟨List.mem_of_getElem? (i := 1376) (rfl), by decide +kernel⟩
set_option maxRecDepth 100000 in
theorem q_812 : (.code yX11_divide cX11_divide 4 (some .int)) ∈ lw_all := List.mem_filter.mpr ⟨List.mem_of_getElem? (i := 812) (rfl), by decide +kernel⟩
set_option maxRecDepth 100000 in
theorem q_1374 : (.instanceMethod yX12_divide) ∈ lw_all := List.mem_filter.mpr ⟨List.mem_of_getElem? (i := 1374) (by decide +kernel), by decide +kernel⟩
set_option maxRecDepth 100000 in
theorem q_810 : (.instanceMethod yX11_divide) ∈ lw_all := List.mem_filter.mpr ⟨List.mem_of_getElem? (i := 810) (by decide +kernel), by decide +kernel⟩
set_option maxRecDepth 100000 in
theorem q_809 : (.methodLink RL 44 yX11_divide) ∈ lw_all := List.mem_filter.mpr ⟨List.mem_of_getElem? (i := 809) (by decide +kernel), by decide +kernel⟩
set_option maxRecDepth 100000 in
theorem q_1373 : (.methodLink RL 47 yX12_divide) ∈ lw_all := List.mem_filter.mpr ⟨List.mem_of_getElem? (i := 1373) (by decide +kernel), by decide +kernel⟩
set_option maxRecDepth 100000 in
theorem q_811 : (.selects RX11 yX11_divide yX11_divide) ∈ lw_all := List.mem_filter.mpr ⟨List.mem_of_getElem? (i := 811) (by decide +kernel), by decide +kernel⟩
set_option maxRecDepth 100000 in
theorem q_1375 : (.selects RX12 yX12_divide yX12_divide) ∈ lw_all := List.mem_filter.mpr ⟨List.mem_of_getElem? (i := 1375) (by decide +kernel), by decide +kernel⟩
set_option maxHeartbeats 4000000 in
set_option maxRecDepth 100000 in
theorem law_divide {p : Program} {e : Env} {s : State} {m : MethodId} {below : List Frame} {meth : Method} {c : Code} (l : Launch) {b : Nat} {zs : Nat → Int32} (C0 : lw_At p s m meth c b 6 zs) {D : va_G} {cI cQ cM cR : ClassId} (hK : va_K D vwCl (TY cI cQ cM cR) s) {A : Nat → Prop} (hAd : ∀ q : Nat, A q ↔ s.heap.size ≤ q) {x0 nme sme xr xs nho ndk nsh nmi nba nde nbu m0 gweight gpresent gspeeches gbuffer gstate gplace gmover gpart gamended gmany gclause gfirstMany gfirstClause gresolution gmotion gaway gawayMany gawayOrder gtable gcommittee glone gentry gchange gyesBy gnoBy gdraft grow growMany growFloats gsaved : Nat} {H : Heap} {locs : List Loc} (hS : va_S A s.heap H locs) (hP : va_P D vwCl [(x0, .inr (11, [.ref nme, .ref sme, .int 0, .ref xr, .ref xs])), (nme, .inr (4, [.ref nho, .ref ndk, .ref nsh, .ref nmi, .ref nba, .ref nde, .ref nbu, .int 1, .int 0, .null, .int 0, .int 0, .int 0])), (m0, .inr (12, [.ref gweight, .ref gpresent, .ref gspeeches, .int 0, .int 50, .int 0, .int 0, .ref gbuffer, .ref gstate, .ref gplace, .ref gmover, .ref gpart, .ref gamended, .ref gmany, .ref gclause, .ref gfirstMany, .ref gfirstClause, .int 0, .int 0, .int 0, .int (-1), .ref gresolution, .ref gmotion, .ref gaway, .ref gawayMany, .ref gawayOrder, .ref gtable, .ref gcommittee, .int 0, .int 0, .int 0, .int 0, .int 0, .int 0, .int 0, .int 0, .int (-5), .int 0, .int 0, .ref glone, .int 0, .ref gentry, .ref gchange, .int 0, .int (-1), .int 0, .int 0, .ref gyesBy, .ref gnoBy, .int 0, .int 0, .int 0, .int 0, .int 0, .int 0, .ref gdraft, .ref grow, .ref growMany, .ref growFloats, .ref gsaved, .int 0, .int 0, .int 0]))] H) (hD : va_D A [(x0, .inr (11, [.ref nme, .ref sme, .int 0, .ref xr, .ref xs])), (nme, .inr (4, [.ref nho, .ref ndk, .ref nsh, .ref nmi, .ref nba, .ref nde, .ref nbu, .int 1, .int 0, .null, .int 0, .int 0, .int 0])), (m0, .inr (12, [.ref gweight, .ref gpresent, .ref gspeeches, .int 0, .int 50, .int 0, .int 0, .ref gbuffer, .ref gstate, .ref gplace, .ref gmover, .ref gpart, .ref gamended, .ref gmany, .ref gclause, .ref gfirstMany, .ref gfirstClause, .int 0, .int 0, .int 0, .int (-1), .ref gresolution, .ref gmotion, .ref gaway, .ref gawayMany, .ref gawayOrder, .ref gtable, .ref gcommittee, .int 0, .int 0, .int 0, .int 0, .int 0, .int 0, .int 0, .int 0, .int (-5), .int 0, .int 0, .ref glone, .int 0, .ref gentry, .ref gchange, .int 0, .int (-1), .int 0, .int 0, .ref gyesBy, .ref gnoBy, .int 0, .int 0, .int 0, .int 0, .int 0, .int 0, .ref gdraft, .ref grow, .ref growMany, .ref growFloats, .ref gsaved, .int 0, .int 0, .int 0]))]) {ls : Array Slot} (hl : lv_has ls 4 [(3, .int 0), (2, .ref m0), (1, .ref x0), (0, .ref b)]) : W p l e room_1 s m #[Value.ref b] below meth c H locs 289 13007 (lw_Z below #[Value.ref b] s) (F0 m 381 ls []) := by
  obtain ⟨hx, hb, hr, hml, hown0, hts0, hX, hbl, hlocks, hgv⟩ := id C0
  have hown : s.vm.findClass RL = some m.cls := hown0
  have hts : ∀ w ∈ lw_all, w.before _ s = true := fun w h => hts0 w (List.mem_filter.mp h).1
  have hA : ∀ q : Nat, s.heap.size ≤ q → A q := fun q h => (hAd q).mpr h
  have hbA : ¬ A b := fun h => absurd ((hAd b).mp h) (Nat.not_le.mpr hbl)
  refine lv_aload_n hx hb dL_law_381 rfl (lv_at hl 2 rfl) ?_
  refine lv_aload_n hx hb dL_law_382 rfl (lv_at hl 3 rfl) ?_
  refine lv_iload_n hx hb dL_law_383 rfl (lv_at hl 0 rfl) ?_
  refine lv_iconst (v := 1) hx hb dL_law_384 (by decide) ?_
  refine lv_iadd hx hb dL_law_385 ?_
  refine lv_cst (v := 1) (by decide) ?_
  refine va_sld hx hb hX hbl hbA hS (i := 1) (by unfold vp_in; decide) dL_law_386 ?_
  refine lv_cst (v := zs 1) rfl ?_
  refine p_call (va_runV (As := [.int (zs 1)]) (rest := []) ⟨hx, hb, hml, hown, hts⟩ (c_X11_divide l D cI cQ cM cR x0 nme sme xr xs nho ndk nsh nmi nba nde nbu (zs 1)) (cwV 1 hts (gV q_809 q_810 q_811 q_65 q_812) rfl rfl rfl (by decide +kernel) ⟨Nat.le_of_ble_eq_true rfl, Nat.le_of_ble_eq_true rfl⟩) ⟨PP_blind, va_recv hK hP (ci := 11) (q0 := 0) rfl rfl, PP_of hK (hP.sub [0, 1] rfl)⟩ rfl rfl hl.1 rfl (lv_room (Nat.le_of_ble_eq_true rfl)) dL_law_387 ⟨Nat.le_of_ble_eq_true rfl, Nat.le_of_ble_eq_true rfl⟩) ?_
  refine lv_aload_n hx hb dL_law_390 rfl (lv_at hl 1 rfl) ?_
  refine lv_aload_n hx hb dL_law_391 rfl (lv_at hl 3 rfl) ?_
  refine lv_iload_n hx hb dL_law_392 rfl (lv_at hl 0 rfl) ?_
  refine lv_iconst (v := 1) hx hb dL_law_393 (by decide) ?_
  refine lv_iadd hx hb dL_law_394 ?_
  refine lv_cst (v := 1) (by decide) ?_
  refine va_sld hx hb hX hbl hbA hS (i := 1) (by unfold vp_in; decide) dL_law_395 ?_
  refine lv_cst (v := zs 1) rfl ?_
  refine p_call (va_runV (As := [.int (zs 1)]) (rest := [.int (-3)]) ⟨hx, hb, hml, hown, hts⟩ (c_X12_divide l D cI cQ cM cR m0 gweight gpresent gspeeches gbuffer gstate gplace gmover gpart gamended gmany gclause gfirstMany gfirstClause gresolution gmotion gaway gawayMany gawayOrder gtable gcommittee glone gentry gchange gyesBy gnoBy gdraft grow growMany growFloats gsaved (zs 1)) (cwV 1 hts (gV q_1373 q_1374 q_1375 q_76 q_1376) rfl rfl rfl (by decide +kernel) ⟨Nat.le_of_ble_eq_true rfl, Nat.le_of_ble_eq_true rfl⟩) ⟨PP_blind, va_recv hK hP (ci := 12) (q0 := 2) rfl rfl, PP_of hK (hP.sub [2] rfl)⟩ rfl rfl hl.1 rfl (lv_room (Nat.le_of_ble_eq_true rfl)) dL_law_396 ⟨Nat.le_of_ble_eq_true rfl, Nat.le_of_ble_eq_true rfl⟩) ?_
  refine lv_icmp_eq (tgt := 975) hx hb dL_law_399 (by decide) (fun _ => ?_) (fun c9 => absurd (by decide) c9)
  exact law_end l C0 hK hAd hS hl
theorem dL_law_404 : decode cL_law 404 = .ok (.aload_n 1, 1) := by decide +kernel
theorem dL_law_405 : decode cL_law 405 = .ok (.aload_n 0, 1) := by decide +kernel
theorem dL_law_406 : decode cL_law 406 = .ok (.iload_n 3, 1) := by decide +kernel
theorem dL_law_407 : decode cL_law 407 = .ok (.iconst 1, 1) := by decide +kernel
theorem dL_law_408 : decode cL_law 408 = .ok (.iadd, 1) := by decide +kernel
theorem dL_law_409 : decode cL_law 409 = .ok (.iaload, 1) := by decide +kernel
theorem dL_law_410 : decode cL_law 410 = .ok (.invokevirtual 48, 3) := by decide +kernel
theorem dL_law_413 : decode cL_law 413 = .ok (.aload_n 2, 1) := by decide +kernel
theorem dL_law_414 : decode cL_law 414 = .ok (.aload_n 0, 1) := by decide +kernel
theorem dL_law_415 : decode cL_law 415 = .ok (.iload_n 3, 1) := by decide +kernel
theorem dL_law_416 : decode cL_law 416 = .ok (.iconst 1, 1) := by decide +kernel
theorem dL_law_417 : decode cL_law 417 = .ok (.iadd, 1) := by decide +kernel
theorem dL_law_418 : decode cL_law 418 = .ok (.iaload, 1) := by decide +kernel
theorem dL_law_419 : decode cL_law 419 = .ok (.invokevirtual 51, 3) := by decide +kernel
theorem dL_law_422 : decode cL_law 422 = .ok (.if_icmp .eq 553, 3) := by decide +kernel
set_option maxRecDepth 100000 in
theorem q_1380 : (.code yX12_report cX12_report 3 (some .int)) ∈ lw_all := List.mem_filter.mpr ⟨List.mem_of_getElem? (i := 1380) (rfl), by decide +kernel⟩
set_option maxRecDepth 100000 in
theorem q_832 : (.code yX11_report cX11_report 3 (some .int)) ∈ lw_all := List.mem_filter.mpr ⟨List.mem_of_getElem? (i := 832) (rfl), by decide +kernel⟩
set_option maxRecDepth 100000 in
theorem q_1378 : (.instanceMethod yX12_report) ∈ lw_all := List.mem_filter.mpr ⟨List.mem_of_getElem? (i := 1378) (by decide +kernel), by decide +kernel⟩
set_option maxRecDepth 100000 in
theorem q_830 : (.instanceMethod yX11_report) ∈ lw_all := List.mem_filter.mpr ⟨List.mem_of_getElem? (i := 830) (by decide +kernel), by decide +kernel⟩
set_option maxRecDepth 100000 in
theorem q_829 : (.methodLink RL 48 yX11_report) ∈ lw_all := List.mem_filter.mpr ⟨List.mem_of_getElem? (i := 829) (by decide +kernel), by decide +kernel⟩
set_option maxRecDepth 100000 in
theorem q_1377 : (.methodLink RL 51 yX12_report) ∈ lw_all := List.mem_filter.mpr ⟨List.mem_of_getElem? (i := 1377) (by decide +kernel), by decide +kernel⟩
set_option maxRecDepth 100000 in
theorem q_831 : (.selects RX11 yX11_report yX11_report) ∈ lw_all := List.mem_filter.mpr ⟨List.mem_of_getElem? (i := 831) (by decide +kernel), by decide +kernel⟩
set_option maxRecDepth 100000 in
theorem q_1379 : (.selects RX12 yX12_report yX12_report) ∈ lw_all := List.mem_filter.mpr ⟨List.mem_of_getElem? (i := 1379) (by decide +kernel), by decide +kernel⟩
set_option maxHeartbeats 4000000 in
set_option maxRecDepth 100000 in
theorem law_report {p : Program} {e : Env} {s : State} {m : MethodId} {below : List Frame} {meth : Method} {c : Code} (l : Launch) {b : Nat} {zs : Nat → Int32} (C0 : lw_At p s m meth c b 6 zs) {D : va_G} {cI cQ cM cR : ClassId} (hK : va_K D vwCl (TY cI cQ cM cR) s) {A : Nat → Prop} (hAd : ∀ q : Nat, A q ↔ s.heap.size ≤ q) {x0 nme sme xr xs nho ndk nsh nmi nba nde nbu nst nss nsp m0 gweight gpresent gspeeches gbuffer gstate gplace gmover gpart gamended gmany gclause gfirstMany gfirstClause gresolution gmotion gaway gawayMany gawayOrder gtable gcommittee glone gentry gchange gyesBy gnoBy gdraft grow growMany growFloats gsaved : Nat} {H : Heap} {locs : List Loc} (hS : va_S A s.heap H locs) (hP : va_P D vwCl [(x0, .inr (11, [.ref nme, .ref sme, .int 0, .ref xr, .ref xs])), (nme, .inr (4, [.ref nho, .ref ndk, .ref nsh, .ref nmi, .ref nba, .ref nde, .ref nbu, .int 1, .int 0, .null, .int 0, .int 0, .int 0])), (nsh, .inr (9, [.int 0, .ref nst, .ref nss, .ref nsp])), (m0, .inr (12, [.ref gweight, .ref gpresent, .ref gspeeches, .int 0, .int 50, .int 0, .int 0, .ref gbuffer, .ref gstate, .ref gplace, .ref gmover, .ref gpart, .ref gamended, .ref gmany, .ref gclause, .ref gfirstMany, .ref gfirstClause, .int 0, .int 0, .int 0, .int (-1), .ref gresolution, .ref gmotion, .ref gaway, .ref gawayMany, .ref gawayOrder, .ref gtable, .ref gcommittee, .int 0, .int 0, .int 0, .int 0, .int 0, .int 0, .int 0, .int 0, .int (-5), .int 0, .int 0, .ref glone, .int 0, .ref gentry, .ref gchange, .int 0, .int (-1), .int 0, .int 0, .ref gyesBy, .ref gnoBy, .int 0, .int 0, .int 0, .int 0, .int 0, .int 0, .ref gdraft, .ref grow, .ref growMany, .ref growFloats, .ref gsaved, .int 0, .int 0, .int 0])), (gcommittee, .inl (cI, 4, .inl (upd (upd (upd (upd (fun _ => 0) 0 (-1)) 1 (-1)) 2 (-1)) 3 (-1))))] H) (hD : va_D A [(x0, .inr (11, [.ref nme, .ref sme, .int 0, .ref xr, .ref xs])), (nme, .inr (4, [.ref nho, .ref ndk, .ref nsh, .ref nmi, .ref nba, .ref nde, .ref nbu, .int 1, .int 0, .null, .int 0, .int 0, .int 0])), (nsh, .inr (9, [.int 0, .ref nst, .ref nss, .ref nsp])), (m0, .inr (12, [.ref gweight, .ref gpresent, .ref gspeeches, .int 0, .int 50, .int 0, .int 0, .ref gbuffer, .ref gstate, .ref gplace, .ref gmover, .ref gpart, .ref gamended, .ref gmany, .ref gclause, .ref gfirstMany, .ref gfirstClause, .int 0, .int 0, .int 0, .int (-1), .ref gresolution, .ref gmotion, .ref gaway, .ref gawayMany, .ref gawayOrder, .ref gtable, .ref gcommittee, .int 0, .int 0, .int 0, .int 0, .int 0, .int 0, .int 0, .int 0, .int (-5), .int 0, .int 0, .ref glone, .int 0, .ref gentry, .ref gchange, .int 0, .int (-1), .int 0, .int 0, .ref gyesBy, .ref gnoBy, .int 0, .int 0, .int 0, .int 0, .int 0, .int 0, .ref gdraft, .ref grow, .ref growMany, .ref growFloats, .ref gsaved, .int 0, .int 0, .int 0])), (gcommittee, .inl (cI, 4, .inl (upd (upd (upd (upd (fun _ => 0) 0 (-1)) 1 (-1)) 2 (-1)) 3 (-1))))]) {ls : Array Slot} (hl : lv_has ls 4 [(3, .int 0), (2, .ref m0), (1, .ref x0), (0, .ref b)]) : W p l e room_1 s m #[Value.ref b] below meth c H locs 289 13007 (lw_Z below #[Value.ref b] s) (F0 m 404 ls []) := by
  obtain ⟨hx, hb, hr, hml, hown0, hts0, hX, hbl, hlocks, hgv⟩ := id C0
  have hown : s.vm.findClass RL = some m.cls := hown0
  have hts : ∀ w ∈ lw_all, w.before _ s = true := fun w h => hts0 w (List.mem_filter.mp h).1
  have hA : ∀ q : Nat, s.heap.size ≤ q → A q := fun q h => (hAd q).mpr h
  have hbA : ¬ A b := fun h => absurd ((hAd b).mp h) (Nat.not_le.mpr hbl)
  refine lv_aload_n hx hb dL_law_404 rfl (lv_at hl 2 rfl) ?_
  refine lv_aload_n hx hb dL_law_405 rfl (lv_at hl 3 rfl) ?_
  refine lv_iload_n hx hb dL_law_406 rfl (lv_at hl 0 rfl) ?_
  refine lv_iconst (v := 1) hx hb dL_law_407 (by decide) ?_
  refine lv_iadd hx hb dL_law_408 ?_
  refine lv_cst (v := 1) (by decide) ?_
  refine va_sld hx hb hX hbl hbA hS (i := 1) (by unfold vp_in; decide) dL_law_409 ?_
  refine lv_cst (v := zs 1) rfl ?_
  refine p_call (va_runV (As := [.int (zs 1)]) (rest := []) ⟨hx, hb, hml, hown, hts⟩ (c_X11_report l D cI cQ cM cR x0 nme sme xr xs nho ndk nsh nmi nba nde nbu nst nss nsp (zs 1)) (cwV 1 hts (gV q_829 q_830 q_831 q_65 q_832) rfl rfl rfl (by decide +kernel) ⟨Nat.le_of_ble_eq_true rfl, Nat.le_of_ble_eq_true rfl⟩) ⟨PP_blind, va_recv hK hP (ci := 11) (q0 := 0) rfl rfl, PP_of hK (hP.sub [0, 1, 2] rfl)⟩ rfl rfl hl.1 rfl (lv_room (Nat.le_of_ble_eq_true rfl)) dL_law_410 ⟨Nat.le_of_ble_eq_true rfl, Nat.le_of_ble_eq_true rfl⟩) ?_
  refine lv_aload_n hx hb dL_law_413 rfl (lv_at hl 1 rfl) ?_
  refine lv_aload_n hx hb dL_law_414 rfl (lv_at hl 3 rfl) ?_
  refine lv_iload_n hx hb dL_law_415 rfl (lv_at hl 0 rfl) ?_
  refine lv_iconst (v := 1) hx hb dL_law_416 (by decide) ?_
  refine lv_iadd hx hb dL_law_417 ?_
  refine lv_cst (v := 1) (by decide) ?_
  refine va_sld hx hb hX hbl hbA hS (i := 1) (by unfold vp_in; decide) dL_law_418 ?_
  refine lv_cst (v := zs 1) rfl ?_
  refine p_call (va_runV (As := [.int (zs 1)]) (rest := [.int (sp_report (zs 1))]) ⟨hx, hb, hml, hown, hts⟩ (c_X12_report l D cI cQ cM cR m0 gweight gpresent gspeeches gbuffer gstate gplace gmover gpart gamended gmany gclause gfirstMany gfirstClause gresolution gmotion gaway gawayMany gawayOrder gtable gcommittee glone gentry gchange gyesBy gnoBy gdraft grow growMany growFloats gsaved (zs 1)) (cwV 1 hts (gV q_1377 q_1378 q_1379 q_76 q_1380) rfl rfl rfl (by decide +kernel) ⟨Nat.le_of_ble_eq_true rfl, Nat.le_of_ble_eq_true rfl⟩) ⟨PP_blind, va_recv hK hP (ci := 12) (q0 := 3) rfl rfl, PP_of hK (hP.sub [3, 4] rfl)⟩ rfl rfl hl.1 rfl (lv_room (Nat.le_of_ble_eq_true rfl)) dL_law_419 ⟨Nat.le_of_ble_eq_true rfl, Nat.le_of_ble_eq_true rfl⟩) ?_
  refine lv_icmp_eq (tgt := 975) hx hb dL_law_422 (by decide) (fun _ => ?_) (fun c9 => absurd (rfl) c9)
  exact law_end l C0 hK hAd hS hl
theorem dL_law_427 : decode cL_law 427 = .ok (.aload_n 1, 1) := by decide +kernel
theorem dL_law_428 : decode cL_law 428 = .ok (.invokevirtual 52, 3) := by decide +kernel
theorem dL_law_431 : decode cL_law 431 = .ok (.aload_n 2, 1) := by decide +kernel
theorem dL_law_432 : decode cL_law 432 = .ok (.invokevirtual 56, 3) := by decide +kernel
theorem dL_law_435 : decode cL_law 435 = .ok (.if_icmp .eq 540, 3) := by decide +kernel
set_option maxRecDepth 100000 in
theorem q_1384 : (.code yX12_next cX12_next 3 (some .int)) ∈ lw_all := List.mem_filter.mpr ⟨List.mem_of_getElem? (i := 1384) (rfl), by decide +kernel⟩
set_option maxRecDepth 100000 in
theorem q_844 : (.code yX11_next cX11_next 2 (some .int)) ∈ lw_all := List.mem_filter.mpr ⟨List.mem_of_getElem? (i := 844) (rfl), by decide +kernel⟩
set_option maxRecDepth 100000 in
theorem q_1382 : (.instanceMethod yX12_next) ∈ lw_all := List.mem_filter.mpr ⟨List.mem_of_getElem? (i := 1382) (by decide +kernel), by decide +kernel⟩
set_option maxRecDepth 100000 in
theorem q_842 : (.instanceMethod yX11_next) ∈ lw_all := List.mem_filter.mpr ⟨List.mem_of_getElem? (i := 842) (by decide +kernel), by decide +kernel⟩
set_option maxRecDepth 100000 in
theorem q_841 : (.methodLink RL 52 yX11_next) ∈ lw_all := List.mem_filter.mpr ⟨List.mem_of_getElem? (i := 841) (by decide +kernel), by decide +kernel⟩
set_option maxRecDepth 100000 in
theorem q_1381 : (.methodLink RL 56 yX12_next) ∈ lw_all := List.mem_filter.mpr ⟨List.mem_of_getElem? (i := 1381) (by decide +kernel), by decide +kernel⟩
set_option maxRecDepth 100000 in
theorem q_843 : (.selects RX11 yX11_next yX11_next) ∈ lw_all := List.mem_filter.mpr ⟨List.mem_of_getElem? (i := 843) (by decide +kernel), by decide +kernel⟩
set_option maxRecDepth 100000 in
theorem q_1383 : (.selects RX12 yX12_next yX12_next) ∈ lw_all := List.mem_filter.mpr ⟨List.mem_of_getElem? (i := 1383) (by decide +kernel), by decide +kernel⟩
set_option maxHeartbeats 4000000 in
set_option maxRecDepth 100000 in
theorem law_next {p : Program} {e : Env} {s : State} {m : MethodId} {below : List Frame} {meth : Method} {c : Code} (l : Launch) {b : Nat} {zs : Nat → Int32} (C0 : lw_At p s m meth c b 6 zs) {D : va_G} {cI cQ cM cR : ClassId} (hK : va_K D vwCl (TY cI cQ cM cR) s) {A : Nat → Prop} (hAd : ∀ q : Nat, A q ↔ s.heap.size ≤ q) {x0 nme sme xr xs nho ndk nsh nmi nba nde nbu nst nss nsp m0 gweight gpresent gspeeches gbuffer gstate gplace gmover gpart gamended gmany gclause gfirstMany gfirstClause gresolution gmotion gaway gawayMany gawayOrder gtable gcommittee glone gentry gchange gyesBy gnoBy gdraft grow growMany growFloats gsaved : Nat} {H : Heap} {locs : List Loc} (hS : va_S A s.heap H locs) (hP : va_P D vwCl [(x0, .inr (11, [.ref nme, .ref sme, .int 0, .ref xr, .ref xs])), (nme, .inr (4, [.ref nho, .ref ndk, .ref nsh, .ref nmi, .ref nba, .ref nde, .ref nbu, .int 1, .int 0, .null, .int 0, .int 0, .int 0])), (nsh, .inr (9, [.int 0, .ref nst, .ref nss, .ref nsp])), (m0, .inr (12, [.ref gweight, .ref gpresent, .ref gspeeches, .int 0, .int 50, .int 0, .int 0, .ref gbuffer, .ref gstate, .ref gplace, .ref gmover, .ref gpart, .ref gamended, .ref gmany, .ref gclause, .ref gfirstMany, .ref gfirstClause, .int 0, .int 0, .int 0, .int (-1), .ref gresolution, .ref gmotion, .ref gaway, .ref gawayMany, .ref gawayOrder, .ref gtable, .ref gcommittee, .int 0, .int 0, .int 0, .int 0, .int 0, .int 0, .int 0, .int 0, .int (-5), .int 0, .int 0, .ref glone, .int 0, .ref gentry, .ref gchange, .int 0, .int (-1), .int 0, .int 0, .ref gyesBy, .ref gnoBy, .int 0, .int 0, .int 0, .int 0, .int 0, .int 0, .ref gdraft, .ref grow, .ref growMany, .ref growFloats, .ref gsaved, .int 0, .int 0, .int 0]))] H) (hD : va_D A [(x0, .inr (11, [.ref nme, .ref sme, .int 0, .ref xr, .ref xs])), (nme, .inr (4, [.ref nho, .ref ndk, .ref nsh, .ref nmi, .ref nba, .ref nde, .ref nbu, .int 1, .int 0, .null, .int 0, .int 0, .int 0])), (nsh, .inr (9, [.int 0, .ref nst, .ref nss, .ref nsp])), (m0, .inr (12, [.ref gweight, .ref gpresent, .ref gspeeches, .int 0, .int 50, .int 0, .int 0, .ref gbuffer, .ref gstate, .ref gplace, .ref gmover, .ref gpart, .ref gamended, .ref gmany, .ref gclause, .ref gfirstMany, .ref gfirstClause, .int 0, .int 0, .int 0, .int (-1), .ref gresolution, .ref gmotion, .ref gaway, .ref gawayMany, .ref gawayOrder, .ref gtable, .ref gcommittee, .int 0, .int 0, .int 0, .int 0, .int 0, .int 0, .int 0, .int 0, .int (-5), .int 0, .int 0, .ref glone, .int 0, .ref gentry, .ref gchange, .int 0, .int (-1), .int 0, .int 0, .ref gyesBy, .ref gnoBy, .int 0, .int 0, .int 0, .int 0, .int 0, .int 0, .ref gdraft, .ref grow, .ref growMany, .ref growFloats, .ref gsaved, .int 0, .int 0, .int 0]))]) {ls : Array Slot} (hl : lv_has ls 4 [(3, .int 0), (2, .ref m0), (1, .ref x0), (0, .ref b)]) : W p l e room_1 s m #[Value.ref b] below meth c H locs 289 13007 (lw_Z below #[Value.ref b] s) (F0 m 427 ls []) := by
  obtain ⟨hx, hb, hr, hml, hown0, hts0, hX, hbl, hlocks, hgv⟩ := id C0
  have hown : s.vm.findClass RL = some m.cls := hown0
  have hts : ∀ w ∈ lw_all, w.before _ s = true := fun w h => hts0 w (List.mem_filter.mp h).1
  have hA : ∀ q : Nat, s.heap.size ≤ q → A q := fun q h => (hAd q).mpr h
  have hbA : ¬ A b := fun h => absurd ((hAd b).mp h) (Nat.not_le.mpr hbl)
  refine lv_aload_n hx hb dL_law_427 rfl (lv_at hl 2 rfl) ?_
  refine p_call (va_runV (As := []) (rest := []) ⟨hx, hb, hml, hown, hts⟩ (c_X11_next l D cI cQ cM cR x0 nme sme xr xs nho ndk nsh nmi nba nde nbu nst nss nsp) (cwV 0 hts (gV q_841 q_842 q_843 q_65 q_844) rfl rfl rfl (by decide +kernel) ⟨Nat.le_of_ble_eq_true rfl, Nat.le_of_ble_eq_true rfl⟩) ⟨PP_blind, va_recv hK hP (ci := 11) (q0 := 0) rfl rfl, PP_of hK (hP.sub [0, 1, 2] rfl)⟩ rfl rfl hl.1 rfl (lv_room (Nat.le_of_ble_eq_true rfl)) dL_law_428 ⟨Nat.le_of_ble_eq_true rfl, Nat.le_of_ble_eq_true rfl⟩) ?_
  refine lv_aload_n hx hb dL_law_431 rfl (lv_at hl 1 rfl) ?_
  refine p_call (va_runV (As := []) (rest := [.int (-5)]) ⟨hx, hb, hml, hown, hts⟩ (c_X12_next l D cI cQ cM cR m0 gweight gpresent gspeeches gbuffer gstate gplace gmover gpart gamended gmany gclause gfirstMany gfirstClause gresolution gmotion gaway gawayMany gawayOrder gtable gcommittee glone gentry gchange gyesBy gnoBy gdraft grow growMany growFloats gsaved) (cwV 0 hts (gV q_1381 q_1382 q_1383 q_76 q_1384) rfl rfl rfl (by decide +kernel) ⟨Nat.le_of_ble_eq_true rfl, Nat.le_of_ble_eq_true rfl⟩) ⟨PP_blind, va_recv hK hP (ci := 12) (q0 := 3) rfl rfl, PP_of hK (hP.sub [3] rfl)⟩ rfl rfl hl.1 rfl (lv_room (Nat.le_of_ble_eq_true rfl)) dL_law_432 ⟨Nat.le_of_ble_eq_true rfl, Nat.le_of_ble_eq_true rfl⟩) ?_
  refine lv_icmp_eq (tgt := 975) hx hb dL_law_435 (by decide) (fun _ => ?_) (fun c9 => absurd (by decide) c9)
  exact law_end l C0 hK hAd hS hl
theorem dL_law_440 : decode cL_law 440 = .ok (.aload_n 1, 1) := by decide +kernel
theorem dL_law_441 : decode cL_law 441 = .ok (.aload_n 0, 1) := by decide +kernel
theorem dL_law_442 : decode cL_law 442 = .ok (.iload_n 3, 1) := by decide +kernel
theorem dL_law_443 : decode cL_law 443 = .ok (.iconst 1, 1) := by decide +kernel
theorem dL_law_444 : decode cL_law 444 = .ok (.iadd, 1) := by decide +kernel
theorem dL_law_445 : decode cL_law 445 = .ok (.iaload, 1) := by decide +kernel
theorem dL_law_446 : decode cL_law 446 = .ok (.invokevirtual 57, 3) := by decide +kernel
theorem dL_law_449 : decode cL_law 449 = .ok (.aload_n 2, 1) := by decide +kernel
theorem dL_law_450 : decode cL_law 450 = .ok (.aload_n 0, 1) := by decide +kernel
theorem dL_law_451 : decode cL_law 451 = .ok (.iload_n 3, 1) := by decide +kernel
theorem dL_law_452 : decode cL_law 452 = .ok (.iconst 1, 1) := by decide +kernel
theorem dL_law_453 : decode cL_law 453 = .ok (.iadd, 1) := by decide +kernel
theorem dL_law_454 : decode cL_law 454 = .ok (.iaload, 1) := by decide +kernel
theorem dL_law_455 : decode cL_law 455 = .ok (.invokevirtual 60, 3) := by decide +kernel
theorem dL_law_458 : decode cL_law 458 = .ok (.if_icmp .eq 517, 3) := by decide +kernel
set_option maxRecDepth 100000 in
theorem q_1404 : (.code yX12_pass cX12_pass 2 (some .int)) ∈ lw_all := List.mem_filter.mpr ⟨List.mem_of_getElem? (i := 1404) (rfl), by decide +kernel⟩
set_option maxRecDepth 100000 in
theorem q_478 : (.code yX11_pass cX11_pass 2 (some .int)) ∈ lw_all := List.mem_filter.mpr ⟨List.mem_of_getElem? (i := 478) (rfl), by decide +kernel⟩
set_option maxRecDepth 100000 in
theorem q_1402 : (.instanceMethod yX12_pass) ∈ lw_all := List.mem_filter.mpr ⟨List.mem_of_getElem? (i := 1402) (by decide +kernel), by decide +kernel⟩
set_option maxRecDepth 100000 in
theorem q_476 : (.instanceMethod yX11_pass) ∈ lw_all := List.mem_filter.mpr ⟨List.mem_of_getElem? (i := 476) (by decide +kernel), by decide +kernel⟩
set_option maxRecDepth 100000 in
theorem q_475 : (.methodLink RL 57 yX11_pass) ∈ lw_all := List.mem_filter.mpr ⟨List.mem_of_getElem? (i := 475) (by decide +kernel), by decide +kernel⟩
set_option maxRecDepth 100000 in
theorem q_1401 : (.methodLink RL 60 yX12_pass) ∈ lw_all := List.mem_filter.mpr ⟨List.mem_of_getElem? (i := 1401) (by decide +kernel), by decide +kernel⟩
set_option maxRecDepth 100000 in
theorem q_477 : (.selects RX11 yX11_pass yX11_pass) ∈ lw_all := List.mem_filter.mpr ⟨List.mem_of_getElem? (i := 477) (by decide +kernel), by decide +kernel⟩
set_option maxRecDepth 100000 in
theorem q_1403 : (.selects RX12 yX12_pass yX12_pass) ∈ lw_all := List.mem_filter.mpr ⟨List.mem_of_getElem? (i := 1403) (by decide +kernel), by decide +kernel⟩
set_option maxHeartbeats 4000000 in
set_option maxRecDepth 100000 in
theorem law_pass {p : Program} {e : Env} {s : State} {m : MethodId} {below : List Frame} {meth : Method} {c : Code} (l : Launch) {b : Nat} {zs : Nat → Int32} (C0 : lw_At p s m meth c b 6 zs) {D : va_G} {cI cQ cM cR : ClassId} (hK : va_K D vwCl (TY cI cQ cM cR) s) {A : Nat → Prop} (hAd : ∀ q : Nat, A q ↔ s.heap.size ≤ q) {x0 nme sme xr xs nho ndk nsh nmi nba nde nbu m0 gweight gpresent gspeeches gbuffer gstate gplace gmover gpart gamended gmany gclause gfirstMany gfirstClause gresolution gmotion gaway gawayMany gawayOrder gtable gcommittee glone gentry gchange gyesBy gnoBy gdraft grow growMany growFloats gsaved : Nat} {H : Heap} {locs : List Loc} (hS : va_S A s.heap H locs) (hP : va_P D vwCl [(x0, .inr (11, [.ref nme, .ref sme, .int 0, .ref xr, .ref xs])), (nme, .inr (4, [.ref nho, .ref ndk, .ref nsh, .ref nmi, .ref nba, .ref nde, .ref nbu, .int 1, .int 0, .null, .int 0, .int 0, .int 0])), (m0, .inr (12, [.ref gweight, .ref gpresent, .ref gspeeches, .int 0, .int 50, .int 0, .int 0, .ref gbuffer, .ref gstate, .ref gplace, .ref gmover, .ref gpart, .ref gamended, .ref gmany, .ref gclause, .ref gfirstMany, .ref gfirstClause, .int 0, .int 0, .int 0, .int (-1), .ref gresolution, .ref gmotion, .ref gaway, .ref gawayMany, .ref gawayOrder, .ref gtable, .ref gcommittee, .int 0, .int 0, .int 0, .int 0, .int 0, .int 0, .int 0, .int 0, .int (-5), .int 0, .int 0, .ref glone, .int 0, .ref gentry, .ref gchange, .int 0, .int (-1), .int 0, .int 0, .ref gyesBy, .ref gnoBy, .int 0, .int 0, .int 0, .int 0, .int 0, .int 0, .ref gdraft, .ref grow, .ref growMany, .ref growFloats, .ref gsaved, .int 0, .int 0, .int 0]))] H) (hD : va_D A [(x0, .inr (11, [.ref nme, .ref sme, .int 0, .ref xr, .ref xs])), (nme, .inr (4, [.ref nho, .ref ndk, .ref nsh, .ref nmi, .ref nba, .ref nde, .ref nbu, .int 1, .int 0, .null, .int 0, .int 0, .int 0])), (m0, .inr (12, [.ref gweight, .ref gpresent, .ref gspeeches, .int 0, .int 50, .int 0, .int 0, .ref gbuffer, .ref gstate, .ref gplace, .ref gmover, .ref gpart, .ref gamended, .ref gmany, .ref gclause, .ref gfirstMany, .ref gfirstClause, .int 0, .int 0, .int 0, .int (-1), .ref gresolution, .ref gmotion, .ref gaway, .ref gawayMany, .ref gawayOrder, .ref gtable, .ref gcommittee, .int 0, .int 0, .int 0, .int 0, .int 0, .int 0, .int 0, .int 0, .int (-5), .int 0, .int 0, .ref glone, .int 0, .ref gentry, .ref gchange, .int 0, .int (-1), .int 0, .int 0, .ref gyesBy, .ref gnoBy, .int 0, .int 0, .int 0, .int 0, .int 0, .int 0, .ref gdraft, .ref grow, .ref growMany, .ref growFloats, .ref gsaved, .int 0, .int 0, .int 0]))]) {ls : Array Slot} (hl : lv_has ls 4 [(3, .int 0), (2, .ref m0), (1, .ref x0), (0, .ref b)]) : W p l e room_1 s m #[Value.ref b] below meth c H locs 289 13007 (lw_Z below #[Value.ref b] s) (F0 m 440 ls []) := by
  obtain ⟨hx, hb, hr, hml, hown0, hts0, hX, hbl, hlocks, hgv⟩ := id C0
  have hown : s.vm.findClass RL = some m.cls := hown0
  have hts : ∀ w ∈ lw_all, w.before _ s = true := fun w h => hts0 w (List.mem_filter.mp h).1
  have hA : ∀ q : Nat, s.heap.size ≤ q → A q := fun q h => (hAd q).mpr h
  have hbA : ¬ A b := fun h => absurd ((hAd b).mp h) (Nat.not_le.mpr hbl)
  refine lv_aload_n hx hb dL_law_440 rfl (lv_at hl 2 rfl) ?_
  refine lv_aload_n hx hb dL_law_441 rfl (lv_at hl 3 rfl) ?_
  refine lv_iload_n hx hb dL_law_442 rfl (lv_at hl 0 rfl) ?_
  refine lv_iconst (v := 1) hx hb dL_law_443 (by decide) ?_
  refine lv_iadd hx hb dL_law_444 ?_
  refine lv_cst (v := 1) (by decide) ?_
  refine va_sld hx hb hX hbl hbA hS (i := 1) (by unfold vp_in; decide) dL_law_445 ?_
  refine lv_cst (v := zs 1) rfl ?_
  have hFc := va_free (wc := [(x0, .inr (11, [.ref nme, .ref sme, .int 0, .ref xr, .ref xs])), (nme, .inr (4, [.ref nho, .ref ndk, .ref nsh, .ref nmi, .ref nba, .ref nde, .ref nbu, .int 1, .int 0, .null, .int 0, .int 0, .int 0]))]) hD hS hA [0, 1] rfl
  refine va_calli (va_runV (As := [.int (zs 1)]) (rest := []) ⟨hx, hb, hml, hown, hts⟩ (c_X11_pass l D cI cQ cM cR x0 nme sme xr xs nho ndk nsh nmi nba nde nbu (zs 1) H.size) (cwV 1 hts (gV q_475 q_476 q_477 q_65 q_478) rfl rfl rfl (by decide +kernel) ⟨Nat.le_of_ble_eq_true rfl, Nat.le_of_ble_eq_true rfl⟩) ⟨PW_blind, va_recv hK hP (ci := 11) (q0 := 0) rfl rfl, PW_of hK (hP.sub [0, 1] rfl) (hD.sub [0, 1] (by decide) rfl)⟩ rfl rfl hl.1 rfl (lv_room (Nat.le_of_ble_eq_true rfl)) dL_law_446 ⟨Nat.le_of_ble_eq_true rfl, Nat.le_of_ble_eq_true rfl⟩) hS (fun q _ h => hFc q h) hFc (fun r_1 u t H1 locs ht hvm hw hB hz1 hk1 hS => ?_)
  have hP1 : va_P D vwCl [] H1 := va_P_nil
  have hD1 : va_D (va_A [(x0, .inr (11, [.ref nme, .ref sme, .int 0, .ref xr, .ref xs])), (nme, .inr (4, [.ref nho, .ref ndk, .ref nsh, .ref nmi, .ref nba, .ref nde, .ref nbu, .int 1, .int 0, .null, .int 0, .int 0, .int 0]))] H.size) [] := va_D_nil
  obtain ⟨hP, hD⟩ := va_join (wr := [(m0, .inr (12, [.ref gweight, .ref gpresent, .ref gspeeches, .int 0, .int 50, .int 0, .int 0, .ref gbuffer, .ref gstate, .ref gplace, .ref gmover, .ref gpart, .ref gamended, .ref gmany, .ref gclause, .ref gfirstMany, .ref gfirstClause, .int 0, .int 0, .int 0, .int (-1), .ref gresolution, .ref gmotion, .ref gaway, .ref gawayMany, .ref gawayOrder, .ref gtable, .ref gcommittee, .int 0, .int 0, .int 0, .int 0, .int 0, .int 0, .int 0, .int 0, .int (-5), .int 0, .int 0, .ref glone, .int 0, .ref gentry, .ref gchange, .int 0, .int (-1), .int 0, .int 0, .ref gyesBy, .ref gnoBy, .int 0, .int 0, .int 0, .int 0, .int 0, .int 0, .ref gdraft, .ref grow, .ref growMany, .ref growFloats, .ref gsaved, .int 0, .int 0, .int 0]))]) (w1 := []) hP hD [0, 1] [2] rfl rfl (by decide) (by decide) hk1 hFc hP1 hD1
  generalize H1 = H at hP hS ⊢
  have hP : va_P D vwCl [(m0, .inr (12, [.ref gweight, .ref gpresent, .ref gspeeches, .int 0, .int 50, .int 0, .int 0, .ref gbuffer, .ref gstate, .ref gplace, .ref gmover, .ref gpart, .ref gamended, .ref gmany, .ref gclause, .ref gfirstMany, .ref gfirstClause, .int 0, .int 0, .int 0, .int (-1), .ref gresolution, .ref gmotion, .ref gaway, .ref gawayMany, .ref gawayOrder, .ref gtable, .ref gcommittee, .int 0, .int 0, .int 0, .int 0, .int 0, .int 0, .int 0, .int 0, .int (-5), .int 0, .int 0, .ref glone, .int 0, .ref gentry, .ref gchange, .int 0, .int (-1), .int 0, .int 0, .ref gyesBy, .ref gnoBy, .int 0, .int 0, .int 0, .int 0, .int 0, .int 0, .ref gdraft, .ref grow, .ref growMany, .ref growFloats, .ref gsaved, .int 0, .int 0, .int 0]))] H := hP
  have hD : va_D A [(m0, .inr (12, [.ref gweight, .ref gpresent, .ref gspeeches, .int 0, .int 50, .int 0, .int 0, .ref gbuffer, .ref gstate, .ref gplace, .ref gmover, .ref gpart, .ref gamended, .ref gmany, .ref gclause, .ref gfirstMany, .ref gfirstClause, .int 0, .int 0, .int 0, .int (-1), .ref gresolution, .ref gmotion, .ref gaway, .ref gawayMany, .ref gawayOrder, .ref gtable, .ref gcommittee, .int 0, .int 0, .int 0, .int 0, .int 0, .int 0, .int 0, .int 0, .int (-5), .int 0, .int 0, .ref glone, .int 0, .ref gentry, .ref gchange, .int 0, .int (-1), .int 0, .int 0, .ref gyesBy, .ref gnoBy, .int 0, .int 0, .int 0, .int 0, .int 0, .int 0, .ref gdraft, .ref grow, .ref growMany, .ref growFloats, .ref gsaved, .int 0, .int 0, .int 0]))] := hD
  obtain rfl : r_1 = (sp_pass (zs 1)) := hw
  refine lv_aload_n hx hb dL_law_449 rfl (lv_at hl 1 rfl) ?_
  refine lv_aload_n hx hb dL_law_450 rfl (lv_at hl 3 rfl) ?_
  refine lv_iload_n hx hb dL_law_451 rfl (lv_at hl 0 rfl) ?_
  refine lv_iconst (v := 1) hx hb dL_law_452 (by decide) ?_
  refine lv_iadd hx hb dL_law_453 ?_
  refine lv_cst (v := 1) (by decide) ?_
  refine va_sld hx hb hX hbl hbA hS (i := 1) (by unfold vp_in; decide) dL_law_454 ?_
  refine lv_cst (v := zs 1) rfl ?_
  have hFc := va_free (wc := [(m0, .inr (12, [.ref gweight, .ref gpresent, .ref gspeeches, .int 0, .int 50, .int 0, .int 0, .ref gbuffer, .ref gstate, .ref gplace, .ref gmover, .ref gpart, .ref gamended, .ref gmany, .ref gclause, .ref gfirstMany, .ref gfirstClause, .int 0, .int 0, .int 0, .int (-1), .ref gresolution, .ref gmotion, .ref gaway, .ref gawayMany, .ref gawayOrder, .ref gtable, .ref gcommittee, .int 0, .int 0, .int 0, .int 0, .int 0, .int 0, .int 0, .int 0, .int (-5), .int 0, .int 0, .ref glone, .int 0, .ref gentry, .ref gchange, .int 0, .int (-1), .int 0, .int 0, .ref gyesBy, .ref gnoBy, .int 0, .int 0, .int 0, .int 0, .int 0, .int 0, .ref gdraft, .ref grow, .ref growMany, .ref growFloats, .ref gsaved, .int 0, .int 0, .int 0]))]) hD hS hA [0] rfl
  refine va_calli (va_runV (As := [.int (zs 1)]) (rest := [.int (sp_pass (zs 1))]) ⟨hx, hb, hml, hown, hts⟩ (c_X12_pass l D cI cQ cM cR m0 gweight gpresent gspeeches gbuffer gstate gplace gmover gpart gamended gmany gclause gfirstMany gfirstClause gresolution gmotion gaway gawayMany gawayOrder gtable gcommittee glone gentry gchange gyesBy gnoBy gdraft grow growMany growFloats gsaved (zs 1) H.size) (cwV 1 hts (gV q_1401 q_1402 q_1403 q_76 q_1404) rfl rfl rfl (by decide +kernel) ⟨Nat.le_of_ble_eq_true rfl, Nat.le_of_ble_eq_true rfl⟩) ⟨PW_blind, va_recv hK hP (ci := 12) (q0 := 0) rfl rfl, PW_of hK (hP.sub [0] rfl) (hD.sub [0] (by decide) rfl)⟩ rfl rfl hl.1 rfl (lv_room (Nat.le_of_ble_eq_true rfl)) dL_law_455 ⟨Nat.le_of_ble_eq_true rfl, Nat.le_of_ble_eq_true rfl⟩) hS (fun q _ h => hFc q h) hFc (fun r_2 u t H1 locs ht hvm hw hB hz1 hk1 hS => ?_)
  have hP1 : va_P D vwCl [] H1 := va_P_nil
  have hD1 : va_D (va_A [(m0, .inr (12, [.ref gweight, .ref gpresent, .ref gspeeches, .int 0, .int 50, .int 0, .int 0, .ref gbuffer, .ref gstate, .ref gplace, .ref gmover, .ref gpart, .ref gamended, .ref gmany, .ref gclause, .ref gfirstMany, .ref gfirstClause, .int 0, .int 0, .int 0, .int (-1), .ref gresolution, .ref gmotion, .ref gaway, .ref gawayMany, .ref gawayOrder, .ref gtable, .ref gcommittee, .int 0, .int 0, .int 0, .int 0, .int 0, .int 0, .int 0, .int 0, .int (-5), .int 0, .int 0, .ref glone, .int 0, .ref gentry, .ref gchange, .int 0, .int (-1), .int 0, .int 0, .ref gyesBy, .ref gnoBy, .int 0, .int 0, .int 0, .int 0, .int 0, .int 0, .ref gdraft, .ref grow, .ref growMany, .ref growFloats, .ref gsaved, .int 0, .int 0, .int 0]))] H.size) [] := va_D_nil
  obtain ⟨hP, hD⟩ := va_join (wr := []) (w1 := []) hP hD [0] [] rfl rfl (by decide) (by decide) hk1 hFc hP1 hD1
  generalize H1 = H at hP hS ⊢
  have hP : va_P D vwCl [] H := hP
  have hD : va_D A [] := hD
  obtain rfl : r_2 = (sp_pass (zs 1)) := hw
  refine lv_icmp_eq (tgt := 975) hx hb dL_law_458 (by decide) (fun _ => ?_) (fun c9 => absurd (rfl) c9)
  exact law_end l C0 hK hAd hS hl
theorem dL_law_463 : decode cL_law 463 = .ok (.aload_n 1, 1) := by decide +kernel
theorem dL_law_464 : decode cL_law 464 = .ok (.invokevirtual 61, 3) := by decide +kernel
theorem dL_law_467 : decode cL_law 467 = .ok (.aload_n 2, 1) := by decide +kernel
theorem dL_law_468 : decode cL_law 468 = .ok (.invokevirtual 64, 3) := by decide +kernel
theorem dL_law_471 : decode cL_law 471 = .ok (.if_icmp .eq 504, 3) := by decide +kernel
set_option maxRecDepth 100000 in
theorem q_1408 : (.code yX12_open cX12_open 1 (some .int)) ∈ lw_all := List.mem_filter.mpr ⟨List.mem_of_getElem? (i := 1408) (rfl), by decide +kernel⟩
set_option maxRecDepth 100000 in
theorem q_482 : (.code yX11_open cX11_open 1 (some .int)) ∈ lw_all := List.mem_filter.mpr ⟨List.mem_of_getElem? (i := 482) (rfl), by decide +kernel⟩
set_option maxRecDepth 100000 in
theorem q_1406 : (.instanceMethod yX12_open) ∈ lw_all := List.mem_filter.mpr ⟨List.mem_of_getElem? (i := 1406) (by decide +kernel), by decide +kernel⟩
set_option maxRecDepth 100000 in
theorem q_480 : (.instanceMethod yX11_open) ∈ lw_all := List.mem_filter.mpr ⟨List.mem_of_getElem? (i := 480) (by decide +kernel), by decide +kernel⟩
set_option maxRecDepth 100000 in
theorem q_479 : (.methodLink RL 61 yX11_open) ∈ lw_all := List.mem_filter.mpr ⟨List.mem_of_getElem? (i := 479) (by decide +kernel), by decide +kernel⟩
set_option maxRecDepth 100000 in
theorem q_1405 : (.methodLink RL 64 yX12_open) ∈ lw_all := List.mem_filter.mpr ⟨List.mem_of_getElem? (i := 1405) (by decide +kernel), by decide +kernel⟩
set_option maxRecDepth 100000 in
theorem q_481 : (.selects RX11 yX11_open yX11_open) ∈ lw_all := List.mem_filter.mpr ⟨List.mem_of_getElem? (i := 481) (by decide +kernel), by decide +kernel⟩
set_option maxRecDepth 100000 in
theorem q_1407 : (.selects RX12 yX12_open yX12_open) ∈ lw_all := List.mem_filter.mpr ⟨List.mem_of_getElem? (i := 1407) (by decide +kernel), by decide +kernel⟩
set_option maxHeartbeats 4000000 in
set_option maxRecDepth 100000 in
theorem law_open {p : Program} {e : Env} {s : State} {m : MethodId} {below : List Frame} {meth : Method} {c : Code} (l : Launch) {b : Nat} {zs : Nat → Int32} (C0 : lw_At p s m meth c b 6 zs) {D : va_G} {cI cQ cM cR : ClassId} (hK : va_K D vwCl (TY cI cQ cM cR) s) {A : Nat → Prop} (hAd : ∀ q : Nat, A q ↔ s.heap.size ≤ q) {x0 nme sme xr xs nho ndk nsh nmi nba nde nbu m0 gweight gpresent gspeeches gbuffer gstate gplace gmover gpart gamended gmany gclause gfirstMany gfirstClause gresolution gmotion gaway gawayMany gawayOrder gtable gcommittee glone gentry gchange gyesBy gnoBy gdraft grow growMany growFloats gsaved : Nat} {H : Heap} {locs : List Loc} (hS : va_S A s.heap H locs) (hP : va_P D vwCl [(x0, .inr (11, [.ref nme, .ref sme, .int 0, .ref xr, .ref xs])), (nme, .inr (4, [.ref nho, .ref ndk, .ref nsh, .ref nmi, .ref nba, .ref nde, .ref nbu, .int 1, .int 0, .null, .int 0, .int 0, .int 0])), (m0, .inr (12, [.ref gweight, .ref gpresent, .ref gspeeches, .int 0, .int 50, .int 0, .int 0, .ref gbuffer, .ref gstate, .ref gplace, .ref gmover, .ref gpart, .ref gamended, .ref gmany, .ref gclause, .ref gfirstMany, .ref gfirstClause, .int 0, .int 0, .int 0, .int (-1), .ref gresolution, .ref gmotion, .ref gaway, .ref gawayMany, .ref gawayOrder, .ref gtable, .ref gcommittee, .int 0, .int 0, .int 0, .int 0, .int 0, .int 0, .int 0, .int 0, .int (-5), .int 0, .int 0, .ref glone, .int 0, .ref gentry, .ref gchange, .int 0, .int (-1), .int 0, .int 0, .ref gyesBy, .ref gnoBy, .int 0, .int 0, .int 0, .int 0, .int 0, .int 0, .ref gdraft, .ref grow, .ref growMany, .ref growFloats, .ref gsaved, .int 0, .int 0, .int 0]))] H) (hD : va_D A [(x0, .inr (11, [.ref nme, .ref sme, .int 0, .ref xr, .ref xs])), (nme, .inr (4, [.ref nho, .ref ndk, .ref nsh, .ref nmi, .ref nba, .ref nde, .ref nbu, .int 1, .int 0, .null, .int 0, .int 0, .int 0])), (m0, .inr (12, [.ref gweight, .ref gpresent, .ref gspeeches, .int 0, .int 50, .int 0, .int 0, .ref gbuffer, .ref gstate, .ref gplace, .ref gmover, .ref gpart, .ref gamended, .ref gmany, .ref gclause, .ref gfirstMany, .ref gfirstClause, .int 0, .int 0, .int 0, .int (-1), .ref gresolution, .ref gmotion, .ref gaway, .ref gawayMany, .ref gawayOrder, .ref gtable, .ref gcommittee, .int 0, .int 0, .int 0, .int 0, .int 0, .int 0, .int 0, .int 0, .int (-5), .int 0, .int 0, .ref glone, .int 0, .ref gentry, .ref gchange, .int 0, .int (-1), .int 0, .int 0, .ref gyesBy, .ref gnoBy, .int 0, .int 0, .int 0, .int 0, .int 0, .int 0, .ref gdraft, .ref grow, .ref growMany, .ref growFloats, .ref gsaved, .int 0, .int 0, .int 0]))]) {ls : Array Slot} (hl : lv_has ls 4 [(3, .int 0), (2, .ref m0), (1, .ref x0), (0, .ref b)]) : W p l e room_1 s m #[Value.ref b] below meth c H locs 289 13007 (lw_Z below #[Value.ref b] s) (F0 m 463 ls []) := by
  obtain ⟨hx, hb, hr, hml, hown0, hts0, hX, hbl, hlocks, hgv⟩ := id C0
  have hown : s.vm.findClass RL = some m.cls := hown0
  have hts : ∀ w ∈ lw_all, w.before _ s = true := fun w h => hts0 w (List.mem_filter.mp h).1
  have hA : ∀ q : Nat, s.heap.size ≤ q → A q := fun q h => (hAd q).mpr h
  have hbA : ¬ A b := fun h => absurd ((hAd b).mp h) (Nat.not_le.mpr hbl)
  refine lv_aload_n hx hb dL_law_463 rfl (lv_at hl 2 rfl) ?_
  refine p_call (va_runV (As := []) (rest := []) ⟨hx, hb, hml, hown, hts⟩ (c_X11_open l D cI cQ cM cR x0 nme sme xr xs nho ndk nsh nmi nba nde nbu) (cwV 0 hts (gV q_479 q_480 q_481 q_65 q_482) rfl rfl rfl (by decide +kernel) ⟨Nat.le_of_ble_eq_true rfl, Nat.le_of_ble_eq_true rfl⟩) ⟨PP_blind, va_recv hK hP (ci := 11) (q0 := 0) rfl rfl, PP_of hK (hP.sub [0, 1] rfl)⟩ rfl rfl hl.1 rfl (lv_room (Nat.le_of_ble_eq_true rfl)) dL_law_464 ⟨Nat.le_of_ble_eq_true rfl, Nat.le_of_ble_eq_true rfl⟩) ?_
  refine lv_aload_n hx hb dL_law_467 rfl (lv_at hl 1 rfl) ?_
  refine p_call (va_runV (As := []) (rest := [.int (-3)]) ⟨hx, hb, hml, hown, hts⟩ (c_X12_open l D cI cQ cM cR m0 gweight gpresent gspeeches gbuffer gstate gplace gmover gpart gamended gmany gclause gfirstMany gfirstClause gresolution gmotion gaway gawayMany gawayOrder gtable gcommittee glone gentry gchange gyesBy gnoBy gdraft grow growMany growFloats gsaved) (cwV 0 hts (gV q_1405 q_1406 q_1407 q_76 q_1408) rfl rfl rfl (by decide +kernel) ⟨Nat.le_of_ble_eq_true rfl, Nat.le_of_ble_eq_true rfl⟩) ⟨PP_blind, va_recv hK hP (ci := 12) (q0 := 2) rfl rfl, PP_of hK (hP.sub [2] rfl)⟩ rfl rfl hl.1 rfl (lv_room (Nat.le_of_ble_eq_true rfl)) dL_law_468 ⟨Nat.le_of_ble_eq_true rfl, Nat.le_of_ble_eq_true rfl⟩) ?_
  refine lv_icmp_eq (tgt := 975) hx hb dL_law_471 (by decide) (fun _ => ?_) (fun c9 => absurd (by decide) c9)
  exact law_end l C0 hK hAd hS hl
theorem dL_law_476 : decode cL_law 476 = .ok (.aload_n 1, 1) := by decide +kernel
theorem dL_law_477 : decode cL_law 477 = .ok (.aload_n 0, 1) := by decide +kernel
theorem dL_law_478 : decode cL_law 478 = .ok (.iload_n 3, 1) := by decide +kernel
theorem dL_law_479 : decode cL_law 479 = .ok (.iconst 1, 1) := by decide +kernel
theorem dL_law_480 : decode cL_law 480 = .ok (.iadd, 1) := by decide +kernel
theorem dL_law_481 : decode cL_law 481 = .ok (.iaload, 1) := by decide +kernel
theorem dL_law_482 : decode cL_law 482 = .ok (.aload_n 0, 1) := by decide +kernel
theorem dL_law_483 : decode cL_law 483 = .ok (.iload_n 3, 1) := by decide +kernel
theorem dL_law_484 : decode cL_law 484 = .ok (.iconst 2, 1) := by decide +kernel
theorem dL_law_485 : decode cL_law 485 = .ok (.iadd, 1) := by decide +kernel
theorem dL_law_486 : decode cL_law 486 = .ok (.iaload, 1) := by decide +kernel
theorem dL_law_487 : decode cL_law 487 = .ok (.aload_n 0, 1) := by decide +kernel
theorem dL_law_488 : decode cL_law 488 = .ok (.iload_n 3, 1) := by decide +kernel
theorem dL_law_489 : decode cL_law 489 = .ok (.iconst 3, 1) := by decide +kernel
theorem dL_law_490 : decode cL_law 490 = .ok (.iadd, 1) := by decide +kernel
theorem dL_law_491 : decode cL_law 491 = .ok (.iaload, 1) := by decide +kernel
theorem dL_law_492 : decode cL_law 492 = .ok (.aload_n 0, 1) := by decide +kernel
theorem dL_law_493 : decode cL_law 493 = .ok (.iload_n 3, 1) := by decide +kernel
theorem dL_law_494 : decode cL_law 494 = .ok (.iconst 4, 1) := by decide +kernel
theorem dL_law_495 : decode cL_law 495 = .ok (.iadd, 1) := by decide +kernel
theorem dL_law_496 : decode cL_law 496 = .ok (.iaload, 1) := by decide +kernel
theorem dL_law_497 : decode cL_law 497 = .ok (.aload_n 0, 1) := by decide +kernel
theorem dL_law_498 : decode cL_law 498 = .ok (.iload_n 3, 1) := by decide +kernel
theorem dL_law_499 : decode cL_law 499 = .ok (.iconst 5, 1) := by decide +kernel
theorem dL_law_500 : decode cL_law 500 = .ok (.iadd, 1) := by decide +kernel
theorem dL_law_501 : decode cL_law 501 = .ok (.iaload, 1) := by decide +kernel
theorem dL_law_502 : decode cL_law 502 = .ok (.invokevirtual 65, 3) := by decide +kernel
theorem dL_law_505 : decode cL_law 505 = .ok (.aload_n 2, 1) := by decide +kernel
theorem dL_law_506 : decode cL_law 506 = .ok (.aload_n 0, 1) := by decide +kernel
theorem dL_law_507 : decode cL_law 507 = .ok (.iload_n 3, 1) := by decide +kernel
theorem dL_law_508 : decode cL_law 508 = .ok (.iconst 1, 1) := by decide +kernel
theorem dL_law_509 : decode cL_law 509 = .ok (.iadd, 1) := by decide +kernel
theorem dL_law_510 : decode cL_law 510 = .ok (.iaload, 1) := by decide +kernel
theorem dL_law_511 : decode cL_law 511 = .ok (.aload_n 0, 1) := by decide +kernel
theorem dL_law_512 : decode cL_law 512 = .ok (.iload_n 3, 1) := by decide +kernel
theorem dL_law_513 : decode cL_law 513 = .ok (.iconst 2, 1) := by decide +kernel
theorem dL_law_514 : decode cL_law 514 = .ok (.iadd, 1) := by decide +kernel
theorem dL_law_515 : decode cL_law 515 = .ok (.iaload, 1) := by decide +kernel
theorem dL_law_516 : decode cL_law 516 = .ok (.aload_n 0, 1) := by decide +kernel
theorem dL_law_517 : decode cL_law 517 = .ok (.iload_n 3, 1) := by decide +kernel
theorem dL_law_518 : decode cL_law 518 = .ok (.iconst 3, 1) := by decide +kernel
theorem dL_law_519 : decode cL_law 519 = .ok (.iadd, 1) := by decide +kernel
theorem dL_law_520 : decode cL_law 520 = .ok (.iaload, 1) := by decide +kernel
theorem dL_law_521 : decode cL_law 521 = .ok (.aload_n 0, 1) := by decide +kernel
theorem dL_law_522 : decode cL_law 522 = .ok (.iload_n 3, 1) := by decide +kernel
theorem dL_law_523 : decode cL_law 523 = .ok (.iconst 4, 1) := by decide +kernel
theorem dL_law_524 : decode cL_law 524 = .ok (.iadd, 1) := by decide +kernel
theorem dL_law_525 : decode cL_law 525 = .ok (.iaload, 1) := by decide +kernel
theorem dL_law_526 : decode cL_law 526 = .ok (.aload_n 0, 1) := by decide +kernel
theorem dL_law_527 : decode cL_law 527 = .ok (.iload_n 3, 1) := by decide +kernel
theorem dL_law_528 : decode cL_law 528 = .ok (.iconst 5, 1) := by decide +kernel
theorem dL_law_529 : decode cL_law 529 = .ok (.iadd, 1) := by decide +kernel
theorem dL_law_530 : decode cL_law 530 = .ok (.iaload, 1) := by decide +kernel
theorem dL_law_531 : decode cL_law 531 = .ok (.invokevirtual 68, 3) := by decide +kernel
theorem dL_law_534 : decode cL_law 534 = .ok (.if_icmp .eq 441, 3) := by decide +kernel
set_option maxRecDepth 100000 in
theorem q_1236 : (.code yX12_rule cX12_rule 7 (some .int)) ∈ lw_all := List.mem_filter.mpr ⟨List.mem_of_getElem? (i := 1236) (rfl), by decide +kernel⟩
set_option maxRecDepth 100000 in
theorem q_1234 : (.instanceMethod yX12_rule) ∈ lw_all := List.mem_filter.mpr ⟨List.mem_of_getElem? (i := 1234) (by decide +kernel), by decide +kernel⟩
set_option maxRecDepth 100000 in
theorem q_849 : (.methodLink RL 65 yX11_rule) ∈ lw_all := List.mem_filter.mpr ⟨List.mem_of_getElem? (i := 849) (by decide +kernel), by decide +kernel⟩
set_option maxRecDepth 100000 in
theorem q_1233 : (.methodLink RL 68 yX12_rule) ∈ lw_all := List.mem_filter.mpr ⟨List.mem_of_getElem? (i := 1233) (by decide +kernel), by decide +kernel⟩
set_option maxRecDepth 100000 in
theorem q_1235 : (.selects RX12 yX12_rule yX12_rule) ∈ lw_all := List.mem_filter.mpr ⟨List.mem_of_getElem? (i := 1235) (by decide +kernel), by decide +kernel⟩
set_option maxHeartbeats 4000000 in
set_option maxRecDepth 100000 in
theorem law_rule {p : Program} {e : Env} {s : State} {m : MethodId} {below : List Frame} {meth : Method} {c : Code} (l : Launch) {b : Nat} {zs : Nat → Int32} (C0 : lw_At p s m meth c b 6 zs) {D : va_G} {cI cQ cM cR : ClassId} (hK : va_K D vwCl (TY cI cQ cM cR) s) {A : Nat → Prop} (hAd : ∀ q : Nat, A q ↔ s.heap.size ≤ q) {x0 nme sme xr xs nho ndk nsh nmi nba nde nbu nhw nhs m0 gweight gpresent gspeeches gbuffer gstate gplace gmover gpart gamended gmany gclause gfirstMany gfirstClause gresolution gmotion gaway gawayMany gawayOrder gtable gcommittee glone gentry gchange gyesBy gnoBy gdraft grow growMany growFloats gsaved : Nat} {H : Heap} {locs : List Loc} (hS : va_S A s.heap H locs) (hP : va_P D vwCl [(x0, .inr (11, [.ref nme, .ref sme, .int 0, .ref xr, .ref xs])), (nme, .inr (4, [.ref nho, .ref ndk, .ref nsh, .ref nmi, .ref nba, .ref nde, .ref nbu, .int 1, .int 0, .null, .int 0, .int 0, .int 0])), (nho, .inr (3, [.int 0, .int 50, .int 0, .ref nhw, .ref nhs])), (m0, .inr (12, [.ref gweight, .ref gpresent, .ref gspeeches, .int 0, .int 50, .int 0, .int 0, .ref gbuffer, .ref gstate, .ref gplace, .ref gmover, .ref gpart, .ref gamended, .ref gmany, .ref gclause, .ref gfirstMany, .ref gfirstClause, .int 0, .int 0, .int 0, .int (-1), .ref gresolution, .ref gmotion, .ref gaway, .ref gawayMany, .ref gawayOrder, .ref gtable, .ref gcommittee, .int 0, .int 0, .int 0, .int 0, .int 0, .int 0, .int 0, .int 0, .int (-5), .int 0, .int 0, .ref glone, .int 0, .ref gentry, .ref gchange, .int 0, .int (-1), .int 0, .int 0, .ref gyesBy, .ref gnoBy, .int 0, .int 0, .int 0, .int 0, .int 0, .int 0, .ref gdraft, .ref grow, .ref growMany, .ref growFloats, .ref gsaved, .int 0, .int 0, .int 0]))] H) (hD : va_D A [(x0, .inr (11, [.ref nme, .ref sme, .int 0, .ref xr, .ref xs])), (nme, .inr (4, [.ref nho, .ref ndk, .ref nsh, .ref nmi, .ref nba, .ref nde, .ref nbu, .int 1, .int 0, .null, .int 0, .int 0, .int 0])), (nho, .inr (3, [.int 0, .int 50, .int 0, .ref nhw, .ref nhs])), (m0, .inr (12, [.ref gweight, .ref gpresent, .ref gspeeches, .int 0, .int 50, .int 0, .int 0, .ref gbuffer, .ref gstate, .ref gplace, .ref gmover, .ref gpart, .ref gamended, .ref gmany, .ref gclause, .ref gfirstMany, .ref gfirstClause, .int 0, .int 0, .int 0, .int (-1), .ref gresolution, .ref gmotion, .ref gaway, .ref gawayMany, .ref gawayOrder, .ref gtable, .ref gcommittee, .int 0, .int 0, .int 0, .int 0, .int 0, .int 0, .int 0, .int 0, .int (-5), .int 0, .int 0, .ref glone, .int 0, .ref gentry, .ref gchange, .int 0, .int (-1), .int 0, .int 0, .ref gyesBy, .ref gnoBy, .int 0, .int 0, .int 0, .int 0, .int 0, .int 0, .ref gdraft, .ref grow, .ref growMany, .ref growFloats, .ref gsaved, .int 0, .int 0, .int 0]))]) {ls : Array Slot} (hl : lv_has ls 4 [(3, .int 0), (2, .ref m0), (1, .ref x0), (0, .ref b)]) : W p l e room_1 s m #[Value.ref b] below meth c H locs 289 13007 (lw_Z below #[Value.ref b] s) (F0 m 476 ls []) := by
  obtain ⟨hx, hb, hr, hml, hown0, hts0, hX, hbl, hlocks, hgv⟩ := id C0
  have hown : s.vm.findClass RL = some m.cls := hown0
  have hts : ∀ w ∈ lw_all, w.before _ s = true := fun w h => hts0 w (List.mem_filter.mp h).1
  have hA : ∀ q : Nat, s.heap.size ≤ q → A q := fun q h => (hAd q).mpr h
  have hbA : ¬ A b := fun h => absurd ((hAd b).mp h) (Nat.not_le.mpr hbl)
  refine lv_aload_n hx hb dL_law_476 rfl (lv_at hl 2 rfl) ?_
  refine lv_aload_n hx hb dL_law_477 rfl (lv_at hl 3 rfl) ?_
  refine lv_iload_n hx hb dL_law_478 rfl (lv_at hl 0 rfl) ?_
  refine lv_iconst (v := 1) hx hb dL_law_479 (by decide) ?_
  refine lv_iadd hx hb dL_law_480 ?_
  refine lv_cst (v := 1) (by decide) ?_
  refine va_sld hx hb hX hbl hbA hS (i := 1) (by unfold vp_in; decide) dL_law_481 ?_
  refine lv_cst (v := zs 1) rfl ?_
  refine lv_aload_n hx hb dL_law_482 rfl (lv_at hl 3 rfl) ?_
  refine lv_iload_n hx hb dL_law_483 rfl (lv_at hl 0 rfl) ?_
  refine lv_iconst (v := 2) hx hb dL_law_484 (by decide) ?_
  refine lv_iadd hx hb dL_law_485 ?_
  refine lv_cst (v := 2) (by decide) ?_
  refine va_sld hx hb hX hbl hbA hS (i := 2) (by unfold vp_in; decide) dL_law_486 ?_
  refine lv_cst (v := zs 2) rfl ?_
  refine lv_aload_n hx hb dL_law_487 rfl (lv_at hl 3 rfl) ?_
  refine lv_iload_n hx hb dL_law_488 rfl (lv_at hl 0 rfl) ?_
  refine lv_iconst (v := 3) hx hb dL_law_489 (by decide) ?_
  refine lv_iadd hx hb dL_law_490 ?_
  refine lv_cst (v := 3) (by decide) ?_
  refine va_sld hx hb hX hbl hbA hS (i := 3) (by unfold vp_in; decide) dL_law_491 ?_
  refine lv_cst (v := zs 3) rfl ?_
  refine lv_aload_n hx hb dL_law_492 rfl (lv_at hl 3 rfl) ?_
  refine lv_iload_n hx hb dL_law_493 rfl (lv_at hl 0 rfl) ?_
  refine lv_iconst (v := 4) hx hb dL_law_494 (by decide) ?_
  refine lv_iadd hx hb dL_law_495 ?_
  refine lv_cst (v := 4) (by decide) ?_
  refine va_sld hx hb hX hbl hbA hS (i := 4) (by unfold vp_in; decide) dL_law_496 ?_
  refine lv_cst (v := zs 4) rfl ?_
  refine lv_aload_n hx hb dL_law_497 rfl (lv_at hl 3 rfl) ?_
  refine lv_iload_n hx hb dL_law_498 rfl (lv_at hl 0 rfl) ?_
  refine lv_iconst (v := 5) hx hb dL_law_499 (by decide) ?_
  refine lv_iadd hx hb dL_law_500 ?_
  refine lv_cst (v := 5) (by decide) ?_
  refine va_sld hx hb hX hbl hbA hS (i := 5) (by unfold vp_in; decide) dL_law_501 ?_
  refine lv_cst (v := zs 5) rfl ?_
  refine p_call (va_runV (As := [.int (zs 1), .int (zs 2), .int (zs 3), .int (zs 4), .int (zs 5)]) (rest := []) ⟨hx, hb, hml, hown, hts⟩ (c_X11_rule l D cI cQ cM cR x0 nme sme xr xs nho ndk nsh nmi nba nde nbu nhw nhs (zs 1) (zs 2) (zs 3) (zs 4) (zs 5)) (cwV 5 hts (gV q_849 q_488 q_489 q_65 q_490) rfl rfl rfl (by decide +kernel) ⟨Nat.le_of_ble_eq_true rfl, Nat.le_of_ble_eq_true rfl⟩) ⟨PP_blind, va_recv hK hP (ci := 11) (q0 := 0) rfl rfl, PP_of hK (hP.sub [0, 1, 2] rfl)⟩ rfl rfl hl.1 rfl (lv_room (Nat.le_of_ble_eq_true rfl)) dL_law_502 ⟨Nat.le_of_ble_eq_true rfl, Nat.le_of_ble_eq_true rfl⟩) ?_
  refine lv_aload_n hx hb dL_law_505 rfl (lv_at hl 1 rfl) ?_
  refine lv_aload_n hx hb dL_law_506 rfl (lv_at hl 3 rfl) ?_
  refine lv_iload_n hx hb dL_law_507 rfl (lv_at hl 0 rfl) ?_
  refine lv_iconst (v := 1) hx hb dL_law_508 (by decide) ?_
  refine lv_iadd hx hb dL_law_509 ?_
  refine lv_cst (v := 1) (by decide) ?_
  refine va_sld hx hb hX hbl hbA hS (i := 1) (by unfold vp_in; decide) dL_law_510 ?_
  refine lv_cst (v := zs 1) rfl ?_
  refine lv_aload_n hx hb dL_law_511 rfl (lv_at hl 3 rfl) ?_
  refine lv_iload_n hx hb dL_law_512 rfl (lv_at hl 0 rfl) ?_
  refine lv_iconst (v := 2) hx hb dL_law_513 (by decide) ?_
  refine lv_iadd hx hb dL_law_514 ?_
  refine lv_cst (v := 2) (by decide) ?_
  refine va_sld hx hb hX hbl hbA hS (i := 2) (by unfold vp_in; decide) dL_law_515 ?_
  refine lv_cst (v := zs 2) rfl ?_
  refine lv_aload_n hx hb dL_law_516 rfl (lv_at hl 3 rfl) ?_
  refine lv_iload_n hx hb dL_law_517 rfl (lv_at hl 0 rfl) ?_
  refine lv_iconst (v := 3) hx hb dL_law_518 (by decide) ?_
  refine lv_iadd hx hb dL_law_519 ?_
  refine lv_cst (v := 3) (by decide) ?_
  refine va_sld hx hb hX hbl hbA hS (i := 3) (by unfold vp_in; decide) dL_law_520 ?_
  refine lv_cst (v := zs 3) rfl ?_
  refine lv_aload_n hx hb dL_law_521 rfl (lv_at hl 3 rfl) ?_
  refine lv_iload_n hx hb dL_law_522 rfl (lv_at hl 0 rfl) ?_
  refine lv_iconst (v := 4) hx hb dL_law_523 (by decide) ?_
  refine lv_iadd hx hb dL_law_524 ?_
  refine lv_cst (v := 4) (by decide) ?_
  refine va_sld hx hb hX hbl hbA hS (i := 4) (by unfold vp_in; decide) dL_law_525 ?_
  refine lv_cst (v := zs 4) rfl ?_
  refine lv_aload_n hx hb dL_law_526 rfl (lv_at hl 3 rfl) ?_
  refine lv_iload_n hx hb dL_law_527 rfl (lv_at hl 0 rfl) ?_
  refine lv_iconst (v := 5) hx hb dL_law_528 (by decide) ?_
  refine lv_iadd hx hb dL_law_529 ?_
  refine lv_cst (v := 5) (by decide) ?_
  refine va_sld hx hb hX hbl hbA hS (i := 5) (by unfold vp_in; decide) dL_law_530 ?_
  refine lv_cst (v := zs 5) rfl ?_
  refine p_call (va_runV (As := [.int (zs 1), .int (zs 2), .int (zs 3), .int (zs 4), .int (zs 5)]) (rest := [.int (-1)]) ⟨hx, hb, hml, hown, hts⟩ (c_X12_rule l D cI cQ cM cR m0 gweight gpresent gspeeches gbuffer gstate gplace gmover gpart gamended gmany gclause gfirstMany gfirstClause gresolution gmotion gaway gawayMany gawayOrder gtable gcommittee glone gentry gchange gyesBy gnoBy gdraft grow growMany growFloats gsaved (zs 1) (zs 2) (zs 3) (zs 4) (zs 5)) (cwV 5 hts (gV q_1233 q_1234 q_1235 q_76 q_1236) rfl rfl rfl (by decide +kernel) ⟨Nat.le_of_ble_eq_true rfl, Nat.le_of_ble_eq_true rfl⟩) ⟨PP_blind, va_recv hK hP (ci := 12) (q0 := 3) rfl rfl, PP_of hK (hP.sub [3] rfl)⟩ rfl rfl hl.1 rfl (lv_room (Nat.le_of_ble_eq_true rfl)) dL_law_531 ⟨Nat.le_of_ble_eq_true rfl, Nat.le_of_ble_eq_true rfl⟩) ?_
  refine lv_icmp_eq (tgt := 975) hx hb dL_law_534 (by decide) (fun _ => ?_) (fun c9 => absurd (by decide) c9)
  exact law_end l C0 hK hAd hS hl
theorem dL_law_539 : decode cL_law 539 = .ok (.aload_n 1, 1) := by decide +kernel
theorem dL_law_540 : decode cL_law 540 = .ok (.aload_n 0, 1) := by decide +kernel
theorem dL_law_541 : decode cL_law 541 = .ok (.iload_n 3, 1) := by decide +kernel
theorem dL_law_542 : decode cL_law 542 = .ok (.iconst 1, 1) := by decide +kernel
theorem dL_law_543 : decode cL_law 543 = .ok (.iadd, 1) := by decide +kernel
theorem dL_law_544 : decode cL_law 544 = .ok (.iaload, 1) := by decide +kernel
theorem dL_law_545 : decode cL_law 545 = .ok (.aload_n 0, 1) := by decide +kernel
theorem dL_law_546 : decode cL_law 546 = .ok (.iload_n 3, 1) := by decide +kernel
theorem dL_law_547 : decode cL_law 547 = .ok (.iconst 2, 1) := by decide +kernel
theorem dL_law_548 : decode cL_law 548 = .ok (.iadd, 1) := by decide +kernel
theorem dL_law_549 : decode cL_law 549 = .ok (.iaload, 1) := by decide +kernel
theorem dL_law_550 : decode cL_law 550 = .ok (.invokevirtual 69, 3) := by decide +kernel
theorem dL_law_553 : decode cL_law 553 = .ok (.aload_n 2, 1) := by decide +kernel
theorem dL_law_554 : decode cL_law 554 = .ok (.aload_n 0, 1) := by decide +kernel
theorem dL_law_555 : decode cL_law 555 = .ok (.iload_n 3, 1) := by decide +kernel
theorem dL_law_556 : decode cL_law 556 = .ok (.iconst 1, 1) := by decide +kernel
theorem dL_law_557 : decode cL_law 557 = .ok (.iadd, 1) := by decide +kernel
theorem dL_law_558 : decode cL_law 558 = .ok (.iaload, 1) := by decide +kernel
theorem dL_law_559 : decode cL_law 559 = .ok (.aload_n 0, 1) := by decide +kernel
theorem dL_law_560 : decode cL_law 560 = .ok (.iload_n 3, 1) := by decide +kernel
theorem dL_law_561 : decode cL_law 561 = .ok (.iconst 2, 1) := by decide +kernel
theorem dL_law_562 : decode cL_law 562 = .ok (.iadd, 1) := by decide +kernel
theorem dL_law_563 : decode cL_law 563 = .ok (.iaload, 1) := by decide +kernel
theorem dL_law_564 : decode cL_law 564 = .ok (.invokevirtual 72, 3) := by decide +kernel
theorem dL_law_567 : decode cL_law 567 = .ok (.if_icmp .eq 408, 3) := by decide +kernel
set_option maxRecDepth 100000 in
theorem q_1412 : (.code yX12_pending cX12_pending 3 (some .int)) ∈ lw_all := List.mem_filter.mpr ⟨List.mem_of_getElem? (i := 1412) (rfl), by decide +kernel⟩
set_option maxRecDepth 100000 in
theorem q_853 : (.code yX11_pending cX11_pending 4 (some .int)) ∈ lw_all := List.mem_filter.mpr ⟨List.mem_of_getElem? (i := 853) (rfl), by decide +kernel⟩
set_option maxRecDepth 100000 in
theorem q_1410 : (.instanceMethod yX12_pending) ∈ lw_all := List.mem_filter.mpr ⟨List.mem_of_getElem? (i := 1410) (by decide +kernel), by decide +kernel⟩
set_option maxRecDepth 100000 in
theorem q_851 : (.instanceMethod yX11_pending) ∈ lw_all := List.mem_filter.mpr ⟨List.mem_of_getElem? (i := 851) (by decide +kernel), by decide +kernel⟩
set_option maxRecDepth 100000 in
theorem q_850 : (.methodLink RL 69 yX11_pending) ∈ lw_all := List.mem_filter.mpr ⟨List.mem_of_getElem? (i := 850) (by decide +kernel), by decide +kernel⟩
set_option maxRecDepth 100000 in
theorem q_1409 : (.methodLink RL 72 yX12_pending) ∈ lw_all := List.mem_filter.mpr ⟨List.mem_of_getElem? (i := 1409) (by decide +kernel), by decide +kernel⟩
set_option maxRecDepth 100000 in
theorem q_852 : (.selects RX11 yX11_pending yX11_pending) ∈ lw_all := List.mem_filter.mpr ⟨List.mem_of_getElem? (i := 852) (by decide +kernel), by decide +kernel⟩
set_option maxRecDepth 100000 in
theorem q_1411 : (.selects RX12 yX12_pending yX12_pending) ∈ lw_all := List.mem_filter.mpr ⟨List.mem_of_getElem? (i := 1411) (by decide +kernel), by decide +kernel⟩
set_option maxHeartbeats 4000000 in
set_option maxRecDepth 100000 in
theorem law_pending {p : Program} {e : Env} {s : State} {m : MethodId} {below : List Frame} {meth : Method} {c : Code} (l : Launch) {b : Nat} {zs : Nat → Int32} (C0 : lw_At p s m meth c b 6 zs) {D : va_G} {cI cQ cM cR : ClassId} (hK : va_K D vwCl (TY cI cQ cM cR) s) {A : Nat → Prop} (hAd : ∀ q : Nat, A q ↔ s.heap.size ≤ q) {x0 nme sme xr xs nho ndk nsh nmi nba nde nbu m0 gweight gpresent gspeeches gbuffer gstate gplace gmover gpart gamended gmany gclause gfirstMany gfirstClause gresolution gmotion gaway gawayMany gawayOrder gtable gcommittee glone gentry gchange gyesBy gnoBy gdraft grow growMany growFloats gsaved : Nat} {H : Heap} {locs : List Loc} (hS : va_S A s.heap H locs) (hP : va_P D vwCl [(x0, .inr (11, [.ref nme, .ref sme, .int 0, .ref xr, .ref xs])), (nme, .inr (4, [.ref nho, .ref ndk, .ref nsh, .ref nmi, .ref nba, .ref nde, .ref nbu, .int 1, .int 0, .null, .int 0, .int 0, .int 0])), (m0, .inr (12, [.ref gweight, .ref gpresent, .ref gspeeches, .int 0, .int 50, .int 0, .int 0, .ref gbuffer, .ref gstate, .ref gplace, .ref gmover, .ref gpart, .ref gamended, .ref gmany, .ref gclause, .ref gfirstMany, .ref gfirstClause, .int 0, .int 0, .int 0, .int (-1), .ref gresolution, .ref gmotion, .ref gaway, .ref gawayMany, .ref gawayOrder, .ref gtable, .ref gcommittee, .int 0, .int 0, .int 0, .int 0, .int 0, .int 0, .int 0, .int 0, .int (-5), .int 0, .int 0, .ref glone, .int 0, .ref gentry, .ref gchange, .int 0, .int (-1), .int 0, .int 0, .ref gyesBy, .ref gnoBy, .int 0, .int 0, .int 0, .int 0, .int 0, .int 0, .ref gdraft, .ref grow, .ref growMany, .ref growFloats, .ref gsaved, .int 0, .int 0, .int 0]))] H) (hD : va_D A [(x0, .inr (11, [.ref nme, .ref sme, .int 0, .ref xr, .ref xs])), (nme, .inr (4, [.ref nho, .ref ndk, .ref nsh, .ref nmi, .ref nba, .ref nde, .ref nbu, .int 1, .int 0, .null, .int 0, .int 0, .int 0])), (m0, .inr (12, [.ref gweight, .ref gpresent, .ref gspeeches, .int 0, .int 50, .int 0, .int 0, .ref gbuffer, .ref gstate, .ref gplace, .ref gmover, .ref gpart, .ref gamended, .ref gmany, .ref gclause, .ref gfirstMany, .ref gfirstClause, .int 0, .int 0, .int 0, .int (-1), .ref gresolution, .ref gmotion, .ref gaway, .ref gawayMany, .ref gawayOrder, .ref gtable, .ref gcommittee, .int 0, .int 0, .int 0, .int 0, .int 0, .int 0, .int 0, .int 0, .int (-5), .int 0, .int 0, .ref glone, .int 0, .ref gentry, .ref gchange, .int 0, .int (-1), .int 0, .int 0, .ref gyesBy, .ref gnoBy, .int 0, .int 0, .int 0, .int 0, .int 0, .int 0, .ref gdraft, .ref grow, .ref growMany, .ref growFloats, .ref gsaved, .int 0, .int 0, .int 0]))]) {ls : Array Slot} (hl : lv_has ls 4 [(3, .int 0), (2, .ref m0), (1, .ref x0), (0, .ref b)]) : W p l e room_1 s m #[Value.ref b] below meth c H locs 289 13007 (lw_Z below #[Value.ref b] s) (F0 m 539 ls []) := by
  obtain ⟨hx, hb, hr, hml, hown0, hts0, hX, hbl, hlocks, hgv⟩ := id C0
  have hown : s.vm.findClass RL = some m.cls := hown0
  have hts : ∀ w ∈ lw_all, w.before _ s = true := fun w h => hts0 w (List.mem_filter.mp h).1
  have hA : ∀ q : Nat, s.heap.size ≤ q → A q := fun q h => (hAd q).mpr h
  have hbA : ¬ A b := fun h => absurd ((hAd b).mp h) (Nat.not_le.mpr hbl)
  refine lv_aload_n hx hb dL_law_539 rfl (lv_at hl 2 rfl) ?_
  refine lv_aload_n hx hb dL_law_540 rfl (lv_at hl 3 rfl) ?_
  refine lv_iload_n hx hb dL_law_541 rfl (lv_at hl 0 rfl) ?_
  refine lv_iconst (v := 1) hx hb dL_law_542 (by decide) ?_
  refine lv_iadd hx hb dL_law_543 ?_
  refine lv_cst (v := 1) (by decide) ?_
  refine va_sld hx hb hX hbl hbA hS (i := 1) (by unfold vp_in; decide) dL_law_544 ?_
  refine lv_cst (v := zs 1) rfl ?_
  refine lv_aload_n hx hb dL_law_545 rfl (lv_at hl 3 rfl) ?_
  refine lv_iload_n hx hb dL_law_546 rfl (lv_at hl 0 rfl) ?_
  refine lv_iconst (v := 2) hx hb dL_law_547 (by decide) ?_
  refine lv_iadd hx hb dL_law_548 ?_
  refine lv_cst (v := 2) (by decide) ?_
  refine va_sld hx hb hX hbl hbA hS (i := 2) (by unfold vp_in; decide) dL_law_549 ?_
  refine lv_cst (v := zs 2) rfl ?_
  refine p_call (va_runV (As := [.int (zs 1), .int (zs 2)]) (rest := []) ⟨hx, hb, hml, hown, hts⟩ (c_X11_pending l D cI cQ cM cR x0 nme sme xr xs nho ndk nsh nmi nba nde nbu (zs 1) (zs 2)) (cwV 2 hts (gV q_850 q_851 q_852 q_65 q_853) rfl rfl rfl (by decide +kernel) ⟨Nat.le_of_ble_eq_true rfl, Nat.le_of_ble_eq_true rfl⟩) ⟨PP_blind, va_recv hK hP (ci := 11) (q0 := 0) rfl rfl, PP_of hK (hP.sub [0, 1] rfl)⟩ rfl rfl hl.1 rfl (lv_room (Nat.le_of_ble_eq_true rfl)) dL_law_550 ⟨Nat.le_of_ble_eq_true rfl, Nat.le_of_ble_eq_true rfl⟩) ?_
  refine lv_aload_n hx hb dL_law_553 rfl (lv_at hl 1 rfl) ?_
  refine lv_aload_n hx hb dL_law_554 rfl (lv_at hl 3 rfl) ?_
  refine lv_iload_n hx hb dL_law_555 rfl (lv_at hl 0 rfl) ?_
  refine lv_iconst (v := 1) hx hb dL_law_556 (by decide) ?_
  refine lv_iadd hx hb dL_law_557 ?_
  refine lv_cst (v := 1) (by decide) ?_
  refine va_sld hx hb hX hbl hbA hS (i := 1) (by unfold vp_in; decide) dL_law_558 ?_
  refine lv_cst (v := zs 1) rfl ?_
  refine lv_aload_n hx hb dL_law_559 rfl (lv_at hl 3 rfl) ?_
  refine lv_iload_n hx hb dL_law_560 rfl (lv_at hl 0 rfl) ?_
  refine lv_iconst (v := 2) hx hb dL_law_561 (by decide) ?_
  refine lv_iadd hx hb dL_law_562 ?_
  refine lv_cst (v := 2) (by decide) ?_
  refine va_sld hx hb hX hbl hbA hS (i := 2) (by unfold vp_in; decide) dL_law_563 ?_
  refine lv_cst (v := zs 2) rfl ?_
  refine p_call (va_runV (As := [.int (zs 1), .int (zs 2)]) (rest := [.int (sp_m1 (zs 1))]) ⟨hx, hb, hml, hown, hts⟩ (c_X12_pending l D cI cQ cM cR m0 gweight gpresent gspeeches gbuffer gstate gplace gmover gpart gamended gmany gclause gfirstMany gfirstClause gresolution gmotion gaway gawayMany gawayOrder gtable gcommittee glone gentry gchange gyesBy gnoBy gdraft grow growMany growFloats gsaved (zs 1) (zs 2)) (cwV 2 hts (gV q_1409 q_1410 q_1411 q_76 q_1412) rfl rfl rfl (by decide +kernel) ⟨Nat.le_of_ble_eq_true rfl, Nat.le_of_ble_eq_true rfl⟩) ⟨PP_blind, va_recv hK hP (ci := 12) (q0 := 2) rfl rfl, PP_of hK (hP.sub [2] rfl)⟩ rfl rfl hl.1 rfl (lv_room (Nat.le_of_ble_eq_true rfl)) dL_law_564 ⟨Nat.le_of_ble_eq_true rfl, Nat.le_of_ble_eq_true rfl⟩) ?_
  refine lv_icmp_eq (tgt := 975) hx hb dL_law_567 (by decide) (fun _ => ?_) (fun c9 => absurd (rfl) c9)
  exact law_end l C0 hK hAd hS hl
theorem dL_law_572 : decode cL_law 572 = .ok (.aload_n 1, 1) := by decide +kernel
theorem dL_law_573 : decode cL_law 573 = .ok (.aload_n 0, 1) := by decide +kernel
theorem dL_law_574 : decode cL_law 574 = .ok (.iload_n 3, 1) := by decide +kernel
theorem dL_law_575 : decode cL_law 575 = .ok (.iconst 1, 1) := by decide +kernel
theorem dL_law_576 : decode cL_law 576 = .ok (.iadd, 1) := by decide +kernel
theorem dL_law_577 : decode cL_law 577 = .ok (.iaload, 1) := by decide +kernel
theorem dL_law_578 : decode cL_law 578 = .ok (.aload_n 0, 1) := by decide +kernel
theorem dL_law_579 : decode cL_law 579 = .ok (.iload_n 3, 1) := by decide +kernel
theorem dL_law_580 : decode cL_law 580 = .ok (.iconst 2, 1) := by decide +kernel
theorem dL_law_581 : decode cL_law 581 = .ok (.iadd, 1) := by decide +kernel
theorem dL_law_582 : decode cL_law 582 = .ok (.iaload, 1) := by decide +kernel
theorem dL_law_583 : decode cL_law 583 = .ok (.invokevirtual 73, 3) := by decide +kernel
theorem dL_law_586 : decode cL_law 586 = .ok (.aload_n 2, 1) := by decide +kernel
theorem dL_law_587 : decode cL_law 587 = .ok (.aload_n 0, 1) := by decide +kernel
theorem dL_law_588 : decode cL_law 588 = .ok (.iload_n 3, 1) := by decide +kernel
theorem dL_law_589 : decode cL_law 589 = .ok (.iconst 1, 1) := by decide +kernel
theorem dL_law_590 : decode cL_law 590 = .ok (.iadd, 1) := by decide +kernel
theorem dL_law_591 : decode cL_law 591 = .ok (.iaload, 1) := by decide +kernel
theorem dL_law_592 : decode cL_law 592 = .ok (.aload_n 0, 1) := by decide +kernel
theorem dL_law_593 : decode cL_law 593 = .ok (.iload_n 3, 1) := by decide +kernel
theorem dL_law_594 : decode cL_law 594 = .ok (.iconst 2, 1) := by decide +kernel
theorem dL_law_595 : decode cL_law 595 = .ok (.iadd, 1) := by decide +kernel
theorem dL_law_596 : decode cL_law 596 = .ok (.iaload, 1) := by decide +kernel
theorem dL_law_597 : decode cL_law 597 = .ok (.invokevirtual 76, 3) := by decide +kernel
theorem dL_law_600 : decode cL_law 600 = .ok (.if_icmp .eq 375, 3) := by decide +kernel
set_option maxRecDepth 100000 in
theorem q_1416 : (.code yX12_text cX12_text 3 (some .int)) ∈ lw_all := List.mem_filter.mpr ⟨List.mem_of_getElem? (i := 1416) (rfl), by decide +kernel⟩
set_option maxRecDepth 100000 in
theorem q_1414 : (.instanceMethod yX12_text) ∈ lw_all := List.mem_filter.mpr ⟨List.mem_of_getElem? (i := 1414) (by decide +kernel), by decide +kernel⟩
set_option maxRecDepth 100000 in
theorem q_859 : (.methodLink RL 73 yX11_text) ∈ lw_all := List.mem_filter.mpr ⟨List.mem_of_getElem? (i := 859) (by decide +kernel), by decide +kernel⟩
set_option maxRecDepth 100000 in
theorem q_1413 : (.methodLink RL 76 yX12_text) ∈ lw_all := List.mem_filter.mpr ⟨List.mem_of_getElem? (i := 1413) (by decide +kernel), by decide +kernel⟩
set_option maxRecDepth 100000 in
theorem q_1415 : (.selects RX12 yX12_text yX12_text) ∈ lw_all := List.mem_filter.mpr ⟨List.mem_of_getElem? (i := 1415) (by decide +kernel), by decide +kernel⟩
set_option maxHeartbeats 4000000 in
set_option maxRecDepth 100000 in
theorem law_text {p : Program} {e : Env} {s : State} {m : MethodId} {below : List Frame} {meth : Method} {c : Code} (l : Launch) {b : Nat} {zs : Nat → Int32} (C0 : lw_At p s m meth c b 6 zs) {D : va_G} {cI cQ cM cR : ClassId} (hK : va_K D vwCl (TY cI cQ cM cR) s) {A : Nat → Prop} (hAd : ∀ q : Nat, A q ↔ s.heap.size ≤ q) {x0 nme sme xr xs nho ndk nsh nmi nba nde nbu ndq ndr m0 gweight gpresent gspeeches gbuffer gstate gplace gmover gpart gamended gmany gclause gfirstMany gfirstClause gresolution gmotion gaway gawayMany gawayOrder gtable gcommittee glone gentry gchange gyesBy gnoBy gdraft grow growMany growFloats gsaved : Nat} {H : Heap} {locs : List Loc} (hS : va_S A s.heap H locs) (hP : va_P D vwCl [(x0, .inr (11, [.ref nme, .ref sme, .int 0, .ref xr, .ref xs])), (nme, .inr (4, [.ref nho, .ref ndk, .ref nsh, .ref nmi, .ref nba, .ref nde, .ref nbu, .int 1, .int 0, .null, .int 0, .int 0, .int 0])), (ndk, .inr (2, [.int 0, .int 0, .ref ndq, .ref ndr])), (m0, .inr (12, [.ref gweight, .ref gpresent, .ref gspeeches, .int 0, .int 50, .int 0, .int 0, .ref gbuffer, .ref gstate, .ref gplace, .ref gmover, .ref gpart, .ref gamended, .ref gmany, .ref gclause, .ref gfirstMany, .ref gfirstClause, .int 0, .int 0, .int 0, .int (-1), .ref gresolution, .ref gmotion, .ref gaway, .ref gawayMany, .ref gawayOrder, .ref gtable, .ref gcommittee, .int 0, .int 0, .int 0, .int 0, .int 0, .int 0, .int 0, .int 0, .int (-5), .int 0, .int 0, .ref glone, .int 0, .ref gentry, .ref gchange, .int 0, .int (-1), .int 0, .int 0, .ref gyesBy, .ref gnoBy, .int 0, .int 0, .int 0, .int 0, .int 0, .int 0, .ref gdraft, .ref grow, .ref growMany, .ref growFloats, .ref gsaved, .int 0, .int 0, .int 0]))] H) (hD : va_D A [(x0, .inr (11, [.ref nme, .ref sme, .int 0, .ref xr, .ref xs])), (nme, .inr (4, [.ref nho, .ref ndk, .ref nsh, .ref nmi, .ref nba, .ref nde, .ref nbu, .int 1, .int 0, .null, .int 0, .int 0, .int 0])), (ndk, .inr (2, [.int 0, .int 0, .ref ndq, .ref ndr])), (m0, .inr (12, [.ref gweight, .ref gpresent, .ref gspeeches, .int 0, .int 50, .int 0, .int 0, .ref gbuffer, .ref gstate, .ref gplace, .ref gmover, .ref gpart, .ref gamended, .ref gmany, .ref gclause, .ref gfirstMany, .ref gfirstClause, .int 0, .int 0, .int 0, .int (-1), .ref gresolution, .ref gmotion, .ref gaway, .ref gawayMany, .ref gawayOrder, .ref gtable, .ref gcommittee, .int 0, .int 0, .int 0, .int 0, .int 0, .int 0, .int 0, .int 0, .int (-5), .int 0, .int 0, .ref glone, .int 0, .ref gentry, .ref gchange, .int 0, .int (-1), .int 0, .int 0, .ref gyesBy, .ref gnoBy, .int 0, .int 0, .int 0, .int 0, .int 0, .int 0, .ref gdraft, .ref grow, .ref growMany, .ref growFloats, .ref gsaved, .int 0, .int 0, .int 0]))]) {ls : Array Slot} (hl : lv_has ls 4 [(3, .int 0), (2, .ref m0), (1, .ref x0), (0, .ref b)]) : W p l e room_1 s m #[Value.ref b] below meth c H locs 289 13007 (lw_Z below #[Value.ref b] s) (F0 m 572 ls []) := by
  obtain ⟨hx, hb, hr, hml, hown0, hts0, hX, hbl, hlocks, hgv⟩ := id C0
  have hown : s.vm.findClass RL = some m.cls := hown0
  have hts : ∀ w ∈ lw_all, w.before _ s = true := fun w h => hts0 w (List.mem_filter.mp h).1
  have hA : ∀ q : Nat, s.heap.size ≤ q → A q := fun q h => (hAd q).mpr h
  have hbA : ¬ A b := fun h => absurd ((hAd b).mp h) (Nat.not_le.mpr hbl)
  refine lv_aload_n hx hb dL_law_572 rfl (lv_at hl 2 rfl) ?_
  refine lv_aload_n hx hb dL_law_573 rfl (lv_at hl 3 rfl) ?_
  refine lv_iload_n hx hb dL_law_574 rfl (lv_at hl 0 rfl) ?_
  refine lv_iconst (v := 1) hx hb dL_law_575 (by decide) ?_
  refine lv_iadd hx hb dL_law_576 ?_
  refine lv_cst (v := 1) (by decide) ?_
  refine va_sld hx hb hX hbl hbA hS (i := 1) (by unfold vp_in; decide) dL_law_577 ?_
  refine lv_cst (v := zs 1) rfl ?_
  refine lv_aload_n hx hb dL_law_578 rfl (lv_at hl 3 rfl) ?_
  refine lv_iload_n hx hb dL_law_579 rfl (lv_at hl 0 rfl) ?_
  refine lv_iconst (v := 2) hx hb dL_law_580 (by decide) ?_
  refine lv_iadd hx hb dL_law_581 ?_
  refine lv_cst (v := 2) (by decide) ?_
  refine va_sld hx hb hX hbl hbA hS (i := 2) (by unfold vp_in; decide) dL_law_582 ?_
  refine lv_cst (v := zs 2) rfl ?_
  refine p_call (va_runV (As := [.int (zs 1), .int (zs 2)]) (rest := []) ⟨hx, hb, hml, hown, hts⟩ (c_X11_text l D cI cQ cM cR x0 nme sme xr xs nho ndk nsh nmi nba nde nbu ndq ndr (zs 1) (zs 2)) (cwV 2 hts (gV q_859 q_860 q_861 q_65 q_862) rfl rfl rfl (by decide +kernel) ⟨Nat.le_of_ble_eq_true rfl, Nat.le_of_ble_eq_true rfl⟩) ⟨PP_blind, va_recv hK hP (ci := 11) (q0 := 0) rfl rfl, PP_of hK (hP.sub [0, 1, 2] rfl)⟩ rfl rfl hl.1 rfl (lv_room (Nat.le_of_ble_eq_true rfl)) dL_law_583 ⟨Nat.le_of_ble_eq_true rfl, Nat.le_of_ble_eq_true rfl⟩) ?_
  refine lv_aload_n hx hb dL_law_586 rfl (lv_at hl 1 rfl) ?_
  refine lv_aload_n hx hb dL_law_587 rfl (lv_at hl 3 rfl) ?_
  refine lv_iload_n hx hb dL_law_588 rfl (lv_at hl 0 rfl) ?_
  refine lv_iconst (v := 1) hx hb dL_law_589 (by decide) ?_
  refine lv_iadd hx hb dL_law_590 ?_
  refine lv_cst (v := 1) (by decide) ?_
  refine va_sld hx hb hX hbl hbA hS (i := 1) (by unfold vp_in; decide) dL_law_591 ?_
  refine lv_cst (v := zs 1) rfl ?_
  refine lv_aload_n hx hb dL_law_592 rfl (lv_at hl 3 rfl) ?_
  refine lv_iload_n hx hb dL_law_593 rfl (lv_at hl 0 rfl) ?_
  refine lv_iconst (v := 2) hx hb dL_law_594 (by decide) ?_
  refine lv_iadd hx hb dL_law_595 ?_
  refine lv_cst (v := 2) (by decide) ?_
  refine va_sld hx hb hX hbl hbA hS (i := 2) (by unfold vp_in; decide) dL_law_596 ?_
  refine lv_cst (v := zs 2) rfl ?_
  refine p_call (va_runV (As := [.int (zs 1), .int (zs 2)]) (rest := [.int (-1)]) ⟨hx, hb, hml, hown, hts⟩ (c_X12_text l D cI cQ cM cR m0 gweight gpresent gspeeches gbuffer gstate gplace gmover gpart gamended gmany gclause gfirstMany gfirstClause gresolution gmotion gaway gawayMany gawayOrder gtable gcommittee glone gentry gchange gyesBy gnoBy gdraft grow growMany growFloats gsaved (zs 1) (zs 2)) (cwV 2 hts (gV q_1413 q_1414 q_1415 q_76 q_1416) rfl rfl rfl (by decide +kernel) ⟨Nat.le_of_ble_eq_true rfl, Nat.le_of_ble_eq_true rfl⟩) ⟨PP_blind, va_recv hK hP (ci := 12) (q0 := 3) rfl rfl, PP_of hK (hP.sub [3] rfl)⟩ rfl rfl hl.1 rfl (lv_room (Nat.le_of_ble_eq_true rfl)) dL_law_597 ⟨Nat.le_of_ble_eq_true rfl, Nat.le_of_ble_eq_true rfl⟩) ?_
  refine lv_icmp_eq (tgt := 975) hx hb dL_law_600 (by decide) (fun _ => ?_) (fun c9 => absurd (by decide) c9)
  exact law_end l C0 hK hAd hS hl
theorem dL_law_605 : decode cL_law 605 = .ok (.aload_n 1, 1) := by decide +kernel
theorem dL_law_606 : decode cL_law 606 = .ok (.aload_n 0, 1) := by decide +kernel
theorem dL_law_607 : decode cL_law 607 = .ok (.iload_n 3, 1) := by decide +kernel
theorem dL_law_608 : decode cL_law 608 = .ok (.iconst 1, 1) := by decide +kernel
theorem dL_law_609 : decode cL_law 609 = .ok (.iadd, 1) := by decide +kernel
theorem dL_law_610 : decode cL_law 610 = .ok (.iaload, 1) := by decide +kernel
theorem dL_law_611 : decode cL_law 611 = .ok (.aload_n 0, 1) := by decide +kernel
theorem dL_law_612 : decode cL_law 612 = .ok (.iload_n 3, 1) := by decide +kernel
theorem dL_law_613 : decode cL_law 613 = .ok (.iconst 2, 1) := by decide +kernel
theorem dL_law_614 : decode cL_law 614 = .ok (.iadd, 1) := by decide +kernel
theorem dL_law_615 : decode cL_law 615 = .ok (.iaload, 1) := by decide +kernel
theorem dL_law_616 : decode cL_law 616 = .ok (.invokevirtual 77, 3) := by decide +kernel
theorem dL_law_619 : decode cL_law 619 = .ok (.aload_n 2, 1) := by decide +kernel
theorem dL_law_620 : decode cL_law 620 = .ok (.aload_n 0, 1) := by decide +kernel
theorem dL_law_621 : decode cL_law 621 = .ok (.iload_n 3, 1) := by decide +kernel
theorem dL_law_622 : decode cL_law 622 = .ok (.iconst 1, 1) := by decide +kernel
theorem dL_law_623 : decode cL_law 623 = .ok (.iadd, 1) := by decide +kernel
theorem dL_law_624 : decode cL_law 624 = .ok (.iaload, 1) := by decide +kernel
theorem dL_law_625 : decode cL_law 625 = .ok (.aload_n 0, 1) := by decide +kernel
theorem dL_law_626 : decode cL_law 626 = .ok (.iload_n 3, 1) := by decide +kernel
theorem dL_law_627 : decode cL_law 627 = .ok (.iconst 2, 1) := by decide +kernel
theorem dL_law_628 : decode cL_law 628 = .ok (.iadd, 1) := by decide +kernel
theorem dL_law_629 : decode cL_law 629 = .ok (.iaload, 1) := by decide +kernel
theorem dL_law_630 : decode cL_law 630 = .ok (.invokevirtual 80, 3) := by decide +kernel
theorem dL_law_633 : decode cL_law 633 = .ok (.if_icmp .eq 342, 3) := by decide +kernel
set_option maxRecDepth 100000 in
theorem q_1424 : (.code yX12_question cX12_question 3 (some .int)) ∈ lw_all := List.mem_filter.mpr ⟨List.mem_of_getElem? (i := 1424) (rfl), by decide +kernel⟩
set_option maxRecDepth 100000 in
theorem q_871 : (.code yX11_question cX11_question 4 (some .int)) ∈ lw_all := List.mem_filter.mpr ⟨List.mem_of_getElem? (i := 871) (rfl), by decide +kernel⟩
set_option maxRecDepth 100000 in
theorem q_1422 : (.instanceMethod yX12_question) ∈ lw_all := List.mem_filter.mpr ⟨List.mem_of_getElem? (i := 1422) (by decide +kernel), by decide +kernel⟩
set_option maxRecDepth 100000 in
theorem q_869 : (.instanceMethod yX11_question) ∈ lw_all := List.mem_filter.mpr ⟨List.mem_of_getElem? (i := 869) (by decide +kernel), by decide +kernel⟩
set_option maxRecDepth 100000 in
theorem q_868 : (.methodLink RL 77 yX11_question) ∈ lw_all := List.mem_filter.mpr ⟨List.mem_of_getElem? (i := 868) (by decide +kernel), by decide +kernel⟩
set_option maxRecDepth 100000 in
theorem q_1421 : (.methodLink RL 80 yX12_question) ∈ lw_all := List.mem_filter.mpr ⟨List.mem_of_getElem? (i := 1421) (by decide +kernel), by decide +kernel⟩
set_option maxRecDepth 100000 in
theorem q_870 : (.selects RX11 yX11_question yX11_question) ∈ lw_all := List.mem_filter.mpr ⟨List.mem_of_getElem? (i := 870) (by decide +kernel), by decide +kernel⟩
set_option maxRecDepth 100000 in
theorem q_1423 : (.selects RX12 yX12_question yX12_question) ∈ lw_all := List.mem_filter.mpr ⟨List.mem_of_getElem? (i := 1423) (by decide +kernel), by decide +kernel⟩
set_option maxHeartbeats 4000000 in
set_option maxRecDepth 100000 in
theorem law_question {p : Program} {e : Env} {s : State} {m : MethodId} {below : List Frame} {meth : Method} {c : Code} (l : Launch) {b : Nat} {zs : Nat → Int32} (C0 : lw_At p s m meth c b 6 zs) {D : va_G} {cI cQ cM cR : ClassId} (hK : va_K D vwCl (TY cI cQ cM cR) s) {A : Nat → Prop} (hAd : ∀ q : Nat, A q ↔ s.heap.size ≤ q) {x0 nme sme xr xs nho ndk nsh nmi nba nde nbu ndq ndr m0 gweight gpresent gspeeches gbuffer gstate gplace gmover gpart gamended gmany gclause gfirstMany gfirstClause gresolution gmotion gaway gawayMany gawayOrder gtable gcommittee glone gentry gchange gyesBy gnoBy gdraft grow growMany growFloats gsaved : Nat} {H : Heap} {locs : List Loc} (hS : va_S A s.heap H locs) (hP : va_P D vwCl [(x0, .inr (11, [.ref nme, .ref sme, .int 0, .ref xr, .ref xs])), (nme, .inr (4, [.ref nho, .ref ndk, .ref nsh, .ref nmi, .ref nba, .ref nde, .ref nbu, .int 1, .int 0, .null, .int 0, .int 0, .int 0])), (ndk, .inr (2, [.int 0, .int 0, .ref ndq, .ref ndr])), (m0, .inr (12, [.ref gweight, .ref gpresent, .ref gspeeches, .int 0, .int 50, .int 0, .int 0, .ref gbuffer, .ref gstate, .ref gplace, .ref gmover, .ref gpart, .ref gamended, .ref gmany, .ref gclause, .ref gfirstMany, .ref gfirstClause, .int 0, .int 0, .int 0, .int (-1), .ref gresolution, .ref gmotion, .ref gaway, .ref gawayMany, .ref gawayOrder, .ref gtable, .ref gcommittee, .int 0, .int 0, .int 0, .int 0, .int 0, .int 0, .int 0, .int 0, .int (-5), .int 0, .int 0, .ref glone, .int 0, .ref gentry, .ref gchange, .int 0, .int (-1), .int 0, .int 0, .ref gyesBy, .ref gnoBy, .int 0, .int 0, .int 0, .int 0, .int 0, .int 0, .ref gdraft, .ref grow, .ref growMany, .ref growFloats, .ref gsaved, .int 0, .int 0, .int 0]))] H) (hD : va_D A [(x0, .inr (11, [.ref nme, .ref sme, .int 0, .ref xr, .ref xs])), (nme, .inr (4, [.ref nho, .ref ndk, .ref nsh, .ref nmi, .ref nba, .ref nde, .ref nbu, .int 1, .int 0, .null, .int 0, .int 0, .int 0])), (ndk, .inr (2, [.int 0, .int 0, .ref ndq, .ref ndr])), (m0, .inr (12, [.ref gweight, .ref gpresent, .ref gspeeches, .int 0, .int 50, .int 0, .int 0, .ref gbuffer, .ref gstate, .ref gplace, .ref gmover, .ref gpart, .ref gamended, .ref gmany, .ref gclause, .ref gfirstMany, .ref gfirstClause, .int 0, .int 0, .int 0, .int (-1), .ref gresolution, .ref gmotion, .ref gaway, .ref gawayMany, .ref gawayOrder, .ref gtable, .ref gcommittee, .int 0, .int 0, .int 0, .int 0, .int 0, .int 0, .int 0, .int 0, .int (-5), .int 0, .int 0, .ref glone, .int 0, .ref gentry, .ref gchange, .int 0, .int (-1), .int 0, .int 0, .ref gyesBy, .ref gnoBy, .int 0, .int 0, .int 0, .int 0, .int 0, .int 0, .ref gdraft, .ref grow, .ref growMany, .ref growFloats, .ref gsaved, .int 0, .int 0, .int 0]))]) {ls : Array Slot} (hl : lv_has ls 4 [(3, .int 0), (2, .ref m0), (1, .ref x0), (0, .ref b)]) : W p l e room_1 s m #[Value.ref b] below meth c H locs 289 13007 (lw_Z below #[Value.ref b] s) (F0 m 605 ls []) := by
  obtain ⟨hx, hb, hr, hml, hown0, hts0, hX, hbl, hlocks, hgv⟩ := id C0
  have hown : s.vm.findClass RL = some m.cls := hown0
  have hts : ∀ w ∈ lw_all, w.before _ s = true := fun w h => hts0 w (List.mem_filter.mp h).1
  have hA : ∀ q : Nat, s.heap.size ≤ q → A q := fun q h => (hAd q).mpr h
  have hbA : ¬ A b := fun h => absurd ((hAd b).mp h) (Nat.not_le.mpr hbl)
  refine lv_aload_n hx hb dL_law_605 rfl (lv_at hl 2 rfl) ?_
  refine lv_aload_n hx hb dL_law_606 rfl (lv_at hl 3 rfl) ?_
  refine lv_iload_n hx hb dL_law_607 rfl (lv_at hl 0 rfl) ?_
  refine lv_iconst (v := 1) hx hb dL_law_608 (by decide) ?_
  refine lv_iadd hx hb dL_law_609 ?_
  refine lv_cst (v := 1) (by decide) ?_
  refine va_sld hx hb hX hbl hbA hS (i := 1) (by unfold vp_in; decide) dL_law_610 ?_
  refine lv_cst (v := zs 1) rfl ?_
  refine lv_aload_n hx hb dL_law_611 rfl (lv_at hl 3 rfl) ?_
  refine lv_iload_n hx hb dL_law_612 rfl (lv_at hl 0 rfl) ?_
  refine lv_iconst (v := 2) hx hb dL_law_613 (by decide) ?_
  refine lv_iadd hx hb dL_law_614 ?_
  refine lv_cst (v := 2) (by decide) ?_
  refine va_sld hx hb hX hbl hbA hS (i := 2) (by unfold vp_in; decide) dL_law_615 ?_
  refine lv_cst (v := zs 2) rfl ?_
  refine p_call (va_runV (As := [.int (zs 1), .int (zs 2)]) (rest := []) ⟨hx, hb, hml, hown, hts⟩ (c_X11_question l D cI cQ cM cR x0 nme sme xr xs nho ndk nsh nmi nba nde nbu ndq ndr (zs 1) (zs 2)) (cwV 2 hts (gV q_868 q_869 q_870 q_65 q_871) rfl rfl rfl (by decide +kernel) ⟨Nat.le_of_ble_eq_true rfl, Nat.le_of_ble_eq_true rfl⟩) ⟨PP_blind, va_recv hK hP (ci := 11) (q0 := 0) rfl rfl, PP_of hK (hP.sub [0, 1, 2] rfl)⟩ rfl rfl hl.1 rfl (lv_room (Nat.le_of_ble_eq_true rfl)) dL_law_616 ⟨Nat.le_of_ble_eq_true rfl, Nat.le_of_ble_eq_true rfl⟩) ?_
  refine lv_aload_n hx hb dL_law_619 rfl (lv_at hl 1 rfl) ?_
  refine lv_aload_n hx hb dL_law_620 rfl (lv_at hl 3 rfl) ?_
  refine lv_iload_n hx hb dL_law_621 rfl (lv_at hl 0 rfl) ?_
  refine lv_iconst (v := 1) hx hb dL_law_622 (by decide) ?_
  refine lv_iadd hx hb dL_law_623 ?_
  refine lv_cst (v := 1) (by decide) ?_
  refine va_sld hx hb hX hbl hbA hS (i := 1) (by unfold vp_in; decide) dL_law_624 ?_
  refine lv_cst (v := zs 1) rfl ?_
  refine lv_aload_n hx hb dL_law_625 rfl (lv_at hl 3 rfl) ?_
  refine lv_iload_n hx hb dL_law_626 rfl (lv_at hl 0 rfl) ?_
  refine lv_iconst (v := 2) hx hb dL_law_627 (by decide) ?_
  refine lv_iadd hx hb dL_law_628 ?_
  refine lv_cst (v := 2) (by decide) ?_
  refine va_sld hx hb hX hbl hbA hS (i := 2) (by unfold vp_in; decide) dL_law_629 ?_
  refine lv_cst (v := zs 2) rfl ?_
  refine p_call (va_runV (As := [.int (zs 1), .int (zs 2)]) (rest := [.int (-1)]) ⟨hx, hb, hml, hown, hts⟩ (c_X12_question l D cI cQ cM cR m0 gweight gpresent gspeeches gbuffer gstate gplace gmover gpart gamended gmany gclause gfirstMany gfirstClause gresolution gmotion gaway gawayMany gawayOrder gtable gcommittee glone gentry gchange gyesBy gnoBy gdraft grow growMany growFloats gsaved (zs 1) (zs 2)) (cwV 2 hts (gV q_1421 q_1422 q_1423 q_76 q_1424) rfl rfl rfl (by decide +kernel) ⟨Nat.le_of_ble_eq_true rfl, Nat.le_of_ble_eq_true rfl⟩) ⟨PP_blind, va_recv hK hP (ci := 12) (q0 := 3) rfl rfl, PP_of hK (hP.sub [3] rfl)⟩ rfl rfl hl.1 rfl (lv_room (Nat.le_of_ble_eq_true rfl)) dL_law_630 ⟨Nat.le_of_ble_eq_true rfl, Nat.le_of_ble_eq_true rfl⟩) ?_
  refine lv_icmp_eq (tgt := 975) hx hb dL_law_633 (by decide) (fun _ => ?_) (fun c9 => absurd (by decide) c9)
  exact law_end l C0 hK hAd hS hl
theorem dL_law_638 : decode cL_law 638 = .ok (.aload_n 1, 1) := by decide +kernel
theorem dL_law_639 : decode cL_law 639 = .ok (.aload_n 0, 1) := by decide +kernel
theorem dL_law_640 : decode cL_law 640 = .ok (.iload_n 3, 1) := by decide +kernel
theorem dL_law_641 : decode cL_law 641 = .ok (.iconst 1, 1) := by decide +kernel
theorem dL_law_642 : decode cL_law 642 = .ok (.iadd, 1) := by decide +kernel
theorem dL_law_643 : decode cL_law 643 = .ok (.iaload, 1) := by decide +kernel
theorem dL_law_644 : decode cL_law 644 = .ok (.invokevirtual 81, 3) := by decide +kernel
theorem dL_law_647 : decode cL_law 647 = .ok (.aload_n 2, 1) := by decide +kernel
theorem dL_law_648 : decode cL_law 648 = .ok (.aload_n 0, 1) := by decide +kernel
theorem dL_law_649 : decode cL_law 649 = .ok (.iload_n 3, 1) := by decide +kernel
theorem dL_law_650 : decode cL_law 650 = .ok (.iconst 1, 1) := by decide +kernel
theorem dL_law_651 : decode cL_law 651 = .ok (.iadd, 1) := by decide +kernel
theorem dL_law_652 : decode cL_law 652 = .ok (.iaload, 1) := by decide +kernel
theorem dL_law_653 : decode cL_law 653 = .ok (.invokevirtual 84, 3) := by decide +kernel
theorem dL_law_656 : decode cL_law 656 = .ok (.if_icmp .eq 319, 3) := by decide +kernel
set_option maxRecDepth 100000 in
theorem q_1428 : (.code yX12_draft cX12_draft 3 (some .int)) ∈ lw_all := List.mem_filter.mpr ⟨List.mem_of_getElem? (i := 1428) (rfl), by decide +kernel⟩
set_option maxRecDepth 100000 in
theorem q_880 : (.code yX11_draft cX11_draft 4 (some .int)) ∈ lw_all := List.mem_filter.mpr ⟨List.mem_of_getElem? (i := 880) (rfl), by decide +kernel⟩
set_option maxRecDepth 100000 in
theorem q_1426 : (.instanceMethod yX12_draft) ∈ lw_all := List.mem_filter.mpr ⟨List.mem_of_getElem? (i := 1426) (by decide +kernel), by decide +kernel⟩
set_option maxRecDepth 100000 in
theorem q_878 : (.instanceMethod yX11_draft) ∈ lw_all := List.mem_filter.mpr ⟨List.mem_of_getElem? (i := 878) (by decide +kernel), by decide +kernel⟩
set_option maxRecDepth 100000 in
theorem q_877 : (.methodLink RL 81 yX11_draft) ∈ lw_all := List.mem_filter.mpr ⟨List.mem_of_getElem? (i := 877) (by decide +kernel), by decide +kernel⟩
set_option maxRecDepth 100000 in
theorem q_1425 : (.methodLink RL 84 yX12_draft) ∈ lw_all := List.mem_filter.mpr ⟨List.mem_of_getElem? (i := 1425) (by decide +kernel), by decide +kernel⟩
set_option maxRecDepth 100000 in
theorem q_879 : (.selects RX11 yX11_draft yX11_draft) ∈ lw_all := List.mem_filter.mpr ⟨List.mem_of_getElem? (i := 879) (by decide +kernel), by decide +kernel⟩
set_option maxRecDepth 100000 in
theorem q_1427 : (.selects RX12 yX12_draft yX12_draft) ∈ lw_all := List.mem_filter.mpr ⟨List.mem_of_getElem? (i := 1427) (by decide +kernel), by decide +kernel⟩
set_option maxHeartbeats 4000000 in
set_option maxRecDepth 100000 in
theorem law_draft {p : Program} {e : Env} {s : State} {m : MethodId} {below : List Frame} {meth : Method} {c : Code} (l : Launch) {b : Nat} {zs : Nat → Int32} (C0 : lw_At p s m meth c b 6 zs) {D : va_G} {cI cQ cM cR : ClassId} (hK : va_K D vwCl (TY cI cQ cM cR) s) {A : Nat → Prop} (hAd : ∀ q : Nat, A q ↔ s.heap.size ≤ q) {x0 nme sme xr xs nho ndk nsh nmi nba nde nbu m0 gweight gpresent gspeeches gbuffer gstate gplace gmover gpart gamended gmany gclause gfirstMany gfirstClause gresolution gmotion gaway gawayMany gawayOrder gtable gcommittee glone gentry gchange gyesBy gnoBy gdraft grow growMany growFloats gsaved : Nat} {H : Heap} {locs : List Loc} (hS : va_S A s.heap H locs) (hP : va_P D vwCl [(x0, .inr (11, [.ref nme, .ref sme, .int 0, .ref xr, .ref xs])), (nme, .inr (4, [.ref nho, .ref ndk, .ref nsh, .ref nmi, .ref nba, .ref nde, .ref nbu, .int 1, .int 0, .null, .int 0, .int 0, .int 0])), (m0, .inr (12, [.ref gweight, .ref gpresent, .ref gspeeches, .int 0, .int 50, .int 0, .int 0, .ref gbuffer, .ref gstate, .ref gplace, .ref gmover, .ref gpart, .ref gamended, .ref gmany, .ref gclause, .ref gfirstMany, .ref gfirstClause, .int 0, .int 0, .int 0, .int (-1), .ref gresolution, .ref gmotion, .ref gaway, .ref gawayMany, .ref gawayOrder, .ref gtable, .ref gcommittee, .int 0, .int 0, .int 0, .int 0, .int 0, .int 0, .int 0, .int 0, .int (-5), .int 0, .int 0, .ref glone, .int 0, .ref gentry, .ref gchange, .int 0, .int (-1), .int 0, .int 0, .ref gyesBy, .ref gnoBy, .int 0, .int 0, .int 0, .int 0, .int 0, .int 0, .ref gdraft, .ref grow, .ref growMany, .ref growFloats, .ref gsaved, .int 0, .int 0, .int 0]))] H) (hD : va_D A [(x0, .inr (11, [.ref nme, .ref sme, .int 0, .ref xr, .ref xs])), (nme, .inr (4, [.ref nho, .ref ndk, .ref nsh, .ref nmi, .ref nba, .ref nde, .ref nbu, .int 1, .int 0, .null, .int 0, .int 0, .int 0])), (m0, .inr (12, [.ref gweight, .ref gpresent, .ref gspeeches, .int 0, .int 50, .int 0, .int 0, .ref gbuffer, .ref gstate, .ref gplace, .ref gmover, .ref gpart, .ref gamended, .ref gmany, .ref gclause, .ref gfirstMany, .ref gfirstClause, .int 0, .int 0, .int 0, .int (-1), .ref gresolution, .ref gmotion, .ref gaway, .ref gawayMany, .ref gawayOrder, .ref gtable, .ref gcommittee, .int 0, .int 0, .int 0, .int 0, .int 0, .int 0, .int 0, .int 0, .int (-5), .int 0, .int 0, .ref glone, .int 0, .ref gentry, .ref gchange, .int 0, .int (-1), .int 0, .int 0, .ref gyesBy, .ref gnoBy, .int 0, .int 0, .int 0, .int 0, .int 0, .int 0, .ref gdraft, .ref grow, .ref growMany, .ref growFloats, .ref gsaved, .int 0, .int 0, .int 0]))]) {ls : Array Slot} (hl : lv_has ls 4 [(3, .int 0), (2, .ref m0), (1, .ref x0), (0, .ref b)]) : W p l e room_1 s m #[Value.ref b] below meth c H locs 289 13007 (lw_Z below #[Value.ref b] s) (F0 m 638 ls []) := by
  obtain ⟨hx, hb, hr, hml, hown0, hts0, hX, hbl, hlocks, hgv⟩ := id C0
  have hown : s.vm.findClass RL = some m.cls := hown0
  have hts : ∀ w ∈ lw_all, w.before _ s = true := fun w h => hts0 w (List.mem_filter.mp h).1
  have hA : ∀ q : Nat, s.heap.size ≤ q → A q := fun q h => (hAd q).mpr h
  have hbA : ¬ A b := fun h => absurd ((hAd b).mp h) (Nat.not_le.mpr hbl)
  refine lv_aload_n hx hb dL_law_638 rfl (lv_at hl 2 rfl) ?_
  refine lv_aload_n hx hb dL_law_639 rfl (lv_at hl 3 rfl) ?_
  refine lv_iload_n hx hb dL_law_640 rfl (lv_at hl 0 rfl) ?_
  refine lv_iconst (v := 1) hx hb dL_law_641 (by decide) ?_
  refine lv_iadd hx hb dL_law_642 ?_
  refine lv_cst (v := 1) (by decide) ?_
  refine va_sld hx hb hX hbl hbA hS (i := 1) (by unfold vp_in; decide) dL_law_643 ?_
  refine lv_cst (v := zs 1) rfl ?_
  refine p_call (va_runV (As := [.int (zs 1)]) (rest := []) ⟨hx, hb, hml, hown, hts⟩ (c_X11_draft l D cI cQ cM cR x0 nme sme xr xs nho ndk nsh nmi nba nde nbu (zs 1)) (cwV 1 hts (gV q_877 q_878 q_879 q_65 q_880) rfl rfl rfl (by decide +kernel) ⟨Nat.le_of_ble_eq_true rfl, Nat.le_of_ble_eq_true rfl⟩) ⟨PP_blind, va_recv hK hP (ci := 11) (q0 := 0) rfl rfl, PP_of hK (hP.sub [0, 1] rfl)⟩ rfl rfl hl.1 rfl (lv_room (Nat.le_of_ble_eq_true rfl)) dL_law_644 ⟨Nat.le_of_ble_eq_true rfl, Nat.le_of_ble_eq_true rfl⟩) ?_
  refine lv_aload_n hx hb dL_law_647 rfl (lv_at hl 1 rfl) ?_
  refine lv_aload_n hx hb dL_law_648 rfl (lv_at hl 3 rfl) ?_
  refine lv_iload_n hx hb dL_law_649 rfl (lv_at hl 0 rfl) ?_
  refine lv_iconst (v := 1) hx hb dL_law_650 (by decide) ?_
  refine lv_iadd hx hb dL_law_651 ?_
  refine lv_cst (v := 1) (by decide) ?_
  refine va_sld hx hb hX hbl hbA hS (i := 1) (by unfold vp_in; decide) dL_law_652 ?_
  refine lv_cst (v := zs 1) rfl ?_
  refine p_call (va_runV (As := [.int (zs 1)]) (rest := [.int (-3)]) ⟨hx, hb, hml, hown, hts⟩ (c_X12_draft l D cI cQ cM cR m0 gweight gpresent gspeeches gbuffer gstate gplace gmover gpart gamended gmany gclause gfirstMany gfirstClause gresolution gmotion gaway gawayMany gawayOrder gtable gcommittee glone gentry gchange gyesBy gnoBy gdraft grow growMany growFloats gsaved (zs 1)) (cwV 1 hts (gV q_1425 q_1426 q_1427 q_76 q_1428) rfl rfl rfl (by decide +kernel) ⟨Nat.le_of_ble_eq_true rfl, Nat.le_of_ble_eq_true rfl⟩) ⟨PP_blind, va_recv hK hP (ci := 12) (q0 := 2) rfl rfl, PP_of hK (hP.sub [2] rfl)⟩ rfl rfl hl.1 rfl (lv_room (Nat.le_of_ble_eq_true rfl)) dL_law_653 ⟨Nat.le_of_ble_eq_true rfl, Nat.le_of_ble_eq_true rfl⟩) ?_
  refine lv_icmp_eq (tgt := 975) hx hb dL_law_656 (by decide) (fun _ => ?_) (fun c9 => absurd (by decide) c9)
  exact law_end l C0 hK hAd hS hl
theorem dL_law_661 : decode cL_law 661 = .ok (.aload_n 1, 1) := by decide +kernel
theorem dL_law_662 : decode cL_law 662 = .ok (.aload_n 0, 1) := by decide +kernel
theorem dL_law_663 : decode cL_law 663 = .ok (.iload_n 3, 1) := by decide +kernel
theorem dL_law_664 : decode cL_law 664 = .ok (.iconst 1, 1) := by decide +kernel
theorem dL_law_665 : decode cL_law 665 = .ok (.iadd, 1) := by decide +kernel
theorem dL_law_666 : decode cL_law 666 = .ok (.iaload, 1) := by decide +kernel
theorem dL_law_667 : decode cL_law 667 = .ok (.aload_n 0, 1) := by decide +kernel
theorem dL_law_668 : decode cL_law 668 = .ok (.iload_n 3, 1) := by decide +kernel
theorem dL_law_669 : decode cL_law 669 = .ok (.iconst 2, 1) := by decide +kernel
theorem dL_law_670 : decode cL_law 670 = .ok (.iadd, 1) := by decide +kernel
theorem dL_law_671 : decode cL_law 671 = .ok (.iaload, 1) := by decide +kernel
theorem dL_law_672 : decode cL_law 672 = .ok (.invokevirtual 85, 3) := by decide +kernel
theorem dL_law_675 : decode cL_law 675 = .ok (.aload_n 2, 1) := by decide +kernel
theorem dL_law_676 : decode cL_law 676 = .ok (.aload_n 0, 1) := by decide +kernel
theorem dL_law_677 : decode cL_law 677 = .ok (.iload_n 3, 1) := by decide +kernel
theorem dL_law_678 : decode cL_law 678 = .ok (.iconst 1, 1) := by decide +kernel
theorem dL_law_679 : decode cL_law 679 = .ok (.iadd, 1) := by decide +kernel
theorem dL_law_680 : decode cL_law 680 = .ok (.iaload, 1) := by decide +kernel
theorem dL_law_681 : decode cL_law 681 = .ok (.aload_n 0, 1) := by decide +kernel
theorem dL_law_682 : decode cL_law 682 = .ok (.iload_n 3, 1) := by decide +kernel
theorem dL_law_683 : decode cL_law 683 = .ok (.iconst 2, 1) := by decide +kernel
theorem dL_law_684 : decode cL_law 684 = .ok (.iadd, 1) := by decide +kernel
theorem dL_law_685 : decode cL_law 685 = .ok (.iaload, 1) := by decide +kernel
theorem dL_law_686 : decode cL_law 686 = .ok (.invokevirtual 88, 3) := by decide +kernel
theorem dL_law_689 : decode cL_law 689 = .ok (.if_icmp .eq 286, 3) := by decide +kernel
set_option maxRecDepth 100000 in
theorem q_1436 : (.code yX12_resolution cX12_resolution 4 (some .int)) ∈ lw_all := List.mem_filter.mpr ⟨List.mem_of_getElem? (i := 1436) (rfl), by decide +kernel⟩
set_option maxRecDepth 100000 in
theorem q_890 : (.code yX11_resolution cX11_resolution 4 (some .int)) ∈ lw_all := List.mem_filter.mpr ⟨List.mem_of_getElem? (i := 890) (rfl), by decide +kernel⟩
set_option maxRecDepth 100000 in
theorem q_1434 : (.instanceMethod yX12_resolution) ∈ lw_all := List.mem_filter.mpr ⟨List.mem_of_getElem? (i := 1434) (by decide +kernel), by decide +kernel⟩
set_option maxRecDepth 100000 in
theorem q_888 : (.instanceMethod yX11_resolution) ∈ lw_all := List.mem_filter.mpr ⟨List.mem_of_getElem? (i := 888) (by decide +kernel), by decide +kernel⟩
set_option maxRecDepth 100000 in
theorem q_887 : (.methodLink RL 85 yX11_resolution) ∈ lw_all := List.mem_filter.mpr ⟨List.mem_of_getElem? (i := 887) (by decide +kernel), by decide +kernel⟩
set_option maxRecDepth 100000 in
theorem q_1433 : (.methodLink RL 88 yX12_resolution) ∈ lw_all := List.mem_filter.mpr ⟨List.mem_of_getElem? (i := 1433) (by decide +kernel), by decide +kernel⟩
set_option maxRecDepth 100000 in
theorem q_889 : (.selects RX11 yX11_resolution yX11_resolution) ∈ lw_all := List.mem_filter.mpr ⟨List.mem_of_getElem? (i := 889) (by decide +kernel), by decide +kernel⟩
set_option maxRecDepth 100000 in
theorem q_1435 : (.selects RX12 yX12_resolution yX12_resolution) ∈ lw_all := List.mem_filter.mpr ⟨List.mem_of_getElem? (i := 1435) (by decide +kernel), by decide +kernel⟩
set_option maxHeartbeats 4000000 in
set_option maxRecDepth 100000 in
theorem law_resolution {p : Program} {e : Env} {s : State} {m : MethodId} {below : List Frame} {meth : Method} {c : Code} (l : Launch) {b : Nat} {zs : Nat → Int32} (C0 : lw_At p s m meth c b 6 zs) {D : va_G} {cI cQ cM cR : ClassId} (hK : va_K D vwCl (TY cI cQ cM cR) s) {A : Nat → Prop} (hAd : ∀ q : Nat, A q ↔ s.heap.size ≤ q) {x0 nme sme xr xs nho ndk nsh nmi nba nde nbu ndq ndr m0 gweight gpresent gspeeches gbuffer gstate gplace gmover gpart gamended gmany gclause gfirstMany gfirstClause gresolution gmotion gaway gawayMany gawayOrder gtable gcommittee glone gentry gchange gyesBy gnoBy gdraft grow growMany growFloats gsaved : Nat} {H : Heap} {locs : List Loc} (hS : va_S A s.heap H locs) (hP : va_P D vwCl [(x0, .inr (11, [.ref nme, .ref sme, .int 0, .ref xr, .ref xs])), (nme, .inr (4, [.ref nho, .ref ndk, .ref nsh, .ref nmi, .ref nba, .ref nde, .ref nbu, .int 1, .int 0, .null, .int 0, .int 0, .int 0])), (ndk, .inr (2, [.int 0, .int 0, .ref ndq, .ref ndr])), (m0, .inr (12, [.ref gweight, .ref gpresent, .ref gspeeches, .int 0, .int 50, .int 0, .int 0, .ref gbuffer, .ref gstate, .ref gplace, .ref gmover, .ref gpart, .ref gamended, .ref gmany, .ref gclause, .ref gfirstMany, .ref gfirstClause, .int 0, .int 0, .int 0, .int (-1), .ref gresolution, .ref gmotion, .ref gaway, .ref gawayMany, .ref gawayOrder, .ref gtable, .ref gcommittee, .int 0, .int 0, .int 0, .int 0, .int 0, .int 0, .int 0, .int 0, .int (-5), .int 0, .int 0, .ref glone, .int 0, .ref gentry, .ref gchange, .int 0, .int (-1), .int 0, .int 0, .ref gyesBy, .ref gnoBy, .int 0, .int 0, .int 0, .int 0, .int 0, .int 0, .ref gdraft, .ref grow, .ref growMany, .ref growFloats, .ref gsaved, .int 0, .int 0, .int 0]))] H) (hD : va_D A [(x0, .inr (11, [.ref nme, .ref sme, .int 0, .ref xr, .ref xs])), (nme, .inr (4, [.ref nho, .ref ndk, .ref nsh, .ref nmi, .ref nba, .ref nde, .ref nbu, .int 1, .int 0, .null, .int 0, .int 0, .int 0])), (ndk, .inr (2, [.int 0, .int 0, .ref ndq, .ref ndr])), (m0, .inr (12, [.ref gweight, .ref gpresent, .ref gspeeches, .int 0, .int 50, .int 0, .int 0, .ref gbuffer, .ref gstate, .ref gplace, .ref gmover, .ref gpart, .ref gamended, .ref gmany, .ref gclause, .ref gfirstMany, .ref gfirstClause, .int 0, .int 0, .int 0, .int (-1), .ref gresolution, .ref gmotion, .ref gaway, .ref gawayMany, .ref gawayOrder, .ref gtable, .ref gcommittee, .int 0, .int 0, .int 0, .int 0, .int 0, .int 0, .int 0, .int 0, .int (-5), .int 0, .int 0, .ref glone, .int 0, .ref gentry, .ref gchange, .int 0, .int (-1), .int 0, .int 0, .ref gyesBy, .ref gnoBy, .int 0, .int 0, .int 0, .int 0, .int 0, .int 0, .ref gdraft, .ref grow, .ref growMany, .ref growFloats, .ref gsaved, .int 0, .int 0, .int 0]))]) {ls : Array Slot} (hl : lv_has ls 4 [(3, .int 0), (2, .ref m0), (1, .ref x0), (0, .ref b)]) : W p l e room_1 s m #[Value.ref b] below meth c H locs 289 13007 (lw_Z below #[Value.ref b] s) (F0 m 661 ls []) := by
  obtain ⟨hx, hb, hr, hml, hown0, hts0, hX, hbl, hlocks, hgv⟩ := id C0
  have hown : s.vm.findClass RL = some m.cls := hown0
  have hts : ∀ w ∈ lw_all, w.before _ s = true := fun w h => hts0 w (List.mem_filter.mp h).1
  have hA : ∀ q : Nat, s.heap.size ≤ q → A q := fun q h => (hAd q).mpr h
  have hbA : ¬ A b := fun h => absurd ((hAd b).mp h) (Nat.not_le.mpr hbl)
  refine lv_aload_n hx hb dL_law_661 rfl (lv_at hl 2 rfl) ?_
  refine lv_aload_n hx hb dL_law_662 rfl (lv_at hl 3 rfl) ?_
  refine lv_iload_n hx hb dL_law_663 rfl (lv_at hl 0 rfl) ?_
  refine lv_iconst (v := 1) hx hb dL_law_664 (by decide) ?_
  refine lv_iadd hx hb dL_law_665 ?_
  refine lv_cst (v := 1) (by decide) ?_
  refine va_sld hx hb hX hbl hbA hS (i := 1) (by unfold vp_in; decide) dL_law_666 ?_
  refine lv_cst (v := zs 1) rfl ?_
  refine lv_aload_n hx hb dL_law_667 rfl (lv_at hl 3 rfl) ?_
  refine lv_iload_n hx hb dL_law_668 rfl (lv_at hl 0 rfl) ?_
  refine lv_iconst (v := 2) hx hb dL_law_669 (by decide) ?_
  refine lv_iadd hx hb dL_law_670 ?_
  refine lv_cst (v := 2) (by decide) ?_
  refine va_sld hx hb hX hbl hbA hS (i := 2) (by unfold vp_in; decide) dL_law_671 ?_
  refine lv_cst (v := zs 2) rfl ?_
  refine p_call (va_runV (As := [.int (zs 1), .int (zs 2)]) (rest := []) ⟨hx, hb, hml, hown, hts⟩ (c_X11_resolution l D cI cQ cM cR x0 nme sme xr xs nho ndk nsh nmi nba nde nbu ndq ndr (zs 1) (zs 2)) (cwV 2 hts (gV q_887 q_888 q_889 q_65 q_890) rfl rfl rfl (by decide +kernel) ⟨Nat.le_of_ble_eq_true rfl, Nat.le_of_ble_eq_true rfl⟩) ⟨PP_blind, va_recv hK hP (ci := 11) (q0 := 0) rfl rfl, PP_of hK (hP.sub [0, 1, 2] rfl)⟩ rfl rfl hl.1 rfl (lv_room (Nat.le_of_ble_eq_true rfl)) dL_law_672 ⟨Nat.le_of_ble_eq_true rfl, Nat.le_of_ble_eq_true rfl⟩) ?_
  refine lv_aload_n hx hb dL_law_675 rfl (lv_at hl 1 rfl) ?_
  refine lv_aload_n hx hb dL_law_676 rfl (lv_at hl 3 rfl) ?_
  refine lv_iload_n hx hb dL_law_677 rfl (lv_at hl 0 rfl) ?_
  refine lv_iconst (v := 1) hx hb dL_law_678 (by decide) ?_
  refine lv_iadd hx hb dL_law_679 ?_
  refine lv_cst (v := 1) (by decide) ?_
  refine va_sld hx hb hX hbl hbA hS (i := 1) (by unfold vp_in; decide) dL_law_680 ?_
  refine lv_cst (v := zs 1) rfl ?_
  refine lv_aload_n hx hb dL_law_681 rfl (lv_at hl 3 rfl) ?_
  refine lv_iload_n hx hb dL_law_682 rfl (lv_at hl 0 rfl) ?_
  refine lv_iconst (v := 2) hx hb dL_law_683 (by decide) ?_
  refine lv_iadd hx hb dL_law_684 ?_
  refine lv_cst (v := 2) (by decide) ?_
  refine va_sld hx hb hX hbl hbA hS (i := 2) (by unfold vp_in; decide) dL_law_685 ?_
  refine lv_cst (v := zs 2) rfl ?_
  refine p_call (va_runV (As := [.int (zs 1), .int (zs 2)]) (rest := [.int (-1)]) ⟨hx, hb, hml, hown, hts⟩ (c_X12_resolution l D cI cQ cM cR m0 gweight gpresent gspeeches gbuffer gstate gplace gmover gpart gamended gmany gclause gfirstMany gfirstClause gresolution gmotion gaway gawayMany gawayOrder gtable gcommittee glone gentry gchange gyesBy gnoBy gdraft grow growMany growFloats gsaved (zs 1) (zs 2)) (cwV 2 hts (gV q_1433 q_1434 q_1435 q_76 q_1436) rfl rfl rfl (by decide +kernel) ⟨Nat.le_of_ble_eq_true rfl, Nat.le_of_ble_eq_true rfl⟩) ⟨PP_blind, va_recv hK hP (ci := 12) (q0 := 3) rfl rfl, PP_of hK (hP.sub [3] rfl)⟩ rfl rfl hl.1 rfl (lv_room (Nat.le_of_ble_eq_true rfl)) dL_law_686 ⟨Nat.le_of_ble_eq_true rfl, Nat.le_of_ble_eq_true rfl⟩) ?_
  refine lv_icmp_eq (tgt := 975) hx hb dL_law_689 (by decide) (fun _ => ?_) (fun c9 => absurd (by decide) c9)
  exact law_end l C0 hK hAd hS hl
theorem dL_law_694 : decode cL_law 694 = .ok (.aload_n 1, 1) := by decide +kernel
theorem dL_law_695 : decode cL_law 695 = .ok (.aload_n 0, 1) := by decide +kernel
theorem dL_law_696 : decode cL_law 696 = .ok (.iload_n 3, 1) := by decide +kernel
theorem dL_law_697 : decode cL_law 697 = .ok (.iconst 1, 1) := by decide +kernel
theorem dL_law_698 : decode cL_law 698 = .ok (.iadd, 1) := by decide +kernel
theorem dL_law_699 : decode cL_law 699 = .ok (.iaload, 1) := by decide +kernel
theorem dL_law_700 : decode cL_law 700 = .ok (.invokevirtual 89, 3) := by decide +kernel
theorem dL_law_703 : decode cL_law 703 = .ok (.aload_n 2, 1) := by decide +kernel
theorem dL_law_704 : decode cL_law 704 = .ok (.aload_n 0, 1) := by decide +kernel
theorem dL_law_705 : decode cL_law 705 = .ok (.iload_n 3, 1) := by decide +kernel
theorem dL_law_706 : decode cL_law 706 = .ok (.iconst 1, 1) := by decide +kernel
theorem dL_law_707 : decode cL_law 707 = .ok (.iadd, 1) := by decide +kernel
theorem dL_law_708 : decode cL_law 708 = .ok (.iaload, 1) := by decide +kernel
theorem dL_law_709 : decode cL_law 709 = .ok (.invokevirtual 92, 3) := by decide +kernel
theorem dL_law_712 : decode cL_law 712 = .ok (.if_icmp .eq 263, 3) := by decide +kernel
set_option maxRecDepth 100000 in
theorem q_1441 : (.code yX12_replayed cX12_replayed 6 (some .int)) ∈ lw_all := List.mem_filter.mpr ⟨List.mem_of_getElem? (i := 1441) (rfl), by decide +kernel⟩
set_option maxRecDepth 100000 in
theorem q_899 : (.code yX11_replayed cX11_replayed 4 (some .int)) ∈ lw_all := List.mem_filter.mpr ⟨List.mem_of_getElem? (i := 899) (rfl), by decide +kernel⟩
set_option maxRecDepth 100000 in
theorem q_1439 : (.instanceMethod yX12_replayed) ∈ lw_all := List.mem_filter.mpr ⟨List.mem_of_getElem? (i := 1439) (by decide +kernel), by decide +kernel⟩
set_option maxRecDepth 100000 in
theorem q_897 : (.instanceMethod yX11_replayed) ∈ lw_all := List.mem_filter.mpr ⟨List.mem_of_getElem? (i := 897) (by decide +kernel), by decide +kernel⟩
set_option maxRecDepth 100000 in
theorem q_896 : (.methodLink RL 89 yX11_replayed) ∈ lw_all := List.mem_filter.mpr ⟨List.mem_of_getElem? (i := 896) (by decide +kernel), by decide +kernel⟩
set_option maxRecDepth 100000 in
theorem q_1438 : (.methodLink RL 92 yX12_replayed) ∈ lw_all := List.mem_filter.mpr ⟨List.mem_of_getElem? (i := 1438) (by decide +kernel), by decide +kernel⟩
set_option maxRecDepth 100000 in
theorem q_898 : (.selects RX11 yX11_replayed yX11_replayed) ∈ lw_all := List.mem_filter.mpr ⟨List.mem_of_getElem? (i := 898) (by decide +kernel), by decide +kernel⟩
set_option maxRecDepth 100000 in
theorem q_1440 : (.selects RX12 yX12_replayed yX12_replayed) ∈ lw_all := List.mem_filter.mpr ⟨List.mem_of_getElem? (i := 1440) (by decide +kernel), by decide +kernel⟩
set_option maxHeartbeats 4000000 in
set_option maxRecDepth 100000 in
theorem law_replayed {p : Program} {e : Env} {s : State} {m : MethodId} {below : List Frame} {meth : Method} {c : Code} (l : Launch) {b : Nat} {zs : Nat → Int32} (C0 : lw_At p s m meth c b 6 zs) {D : va_G} {cI cQ cM cR : ClassId} (hK : va_K D vwCl (TY cI cQ cM cR) s) {A : Nat → Prop} (hAd : ∀ q : Nat, A q ↔ s.heap.size ≤ q) {x0 nme sme xr xs nho ndk nsh nmi nba nde nbu ndq ndr m0 gweight gpresent gspeeches gbuffer gstate gplace gmover gpart gamended gmany gclause gfirstMany gfirstClause gresolution gmotion gaway gawayMany gawayOrder gtable gcommittee glone gentry gchange gyesBy gnoBy gdraft grow growMany growFloats gsaved : Nat} {H : Heap} {locs : List Loc} (hS : va_S A s.heap H locs) (hP : va_P D vwCl [(x0, .inr (11, [.ref nme, .ref sme, .int 0, .ref xr, .ref xs])), (nme, .inr (4, [.ref nho, .ref ndk, .ref nsh, .ref nmi, .ref nba, .ref nde, .ref nbu, .int 1, .int 0, .null, .int 0, .int 0, .int 0])), (ndk, .inr (2, [.int 0, .int 0, .ref ndq, .ref ndr])), (m0, .inr (12, [.ref gweight, .ref gpresent, .ref gspeeches, .int 0, .int 50, .int 0, .int 0, .ref gbuffer, .ref gstate, .ref gplace, .ref gmover, .ref gpart, .ref gamended, .ref gmany, .ref gclause, .ref gfirstMany, .ref gfirstClause, .int 0, .int 0, .int 0, .int (-1), .ref gresolution, .ref gmotion, .ref gaway, .ref gawayMany, .ref gawayOrder, .ref gtable, .ref gcommittee, .int 0, .int 0, .int 0, .int 0, .int 0, .int 0, .int 0, .int 0, .int (-5), .int 0, .int 0, .ref glone, .int 0, .ref gentry, .ref gchange, .int 0, .int (-1), .int 0, .int 0, .ref gyesBy, .ref gnoBy, .int 0, .int 0, .int 0, .int 0, .int 0, .int 0, .ref gdraft, .ref grow, .ref growMany, .ref growFloats, .ref gsaved, .int 0, .int 0, .int 0]))] H) (hD : va_D A [(x0, .inr (11, [.ref nme, .ref sme, .int 0, .ref xr, .ref xs])), (nme, .inr (4, [.ref nho, .ref ndk, .ref nsh, .ref nmi, .ref nba, .ref nde, .ref nbu, .int 1, .int 0, .null, .int 0, .int 0, .int 0])), (ndk, .inr (2, [.int 0, .int 0, .ref ndq, .ref ndr])), (m0, .inr (12, [.ref gweight, .ref gpresent, .ref gspeeches, .int 0, .int 50, .int 0, .int 0, .ref gbuffer, .ref gstate, .ref gplace, .ref gmover, .ref gpart, .ref gamended, .ref gmany, .ref gclause, .ref gfirstMany, .ref gfirstClause, .int 0, .int 0, .int 0, .int (-1), .ref gresolution, .ref gmotion, .ref gaway, .ref gawayMany, .ref gawayOrder, .ref gtable, .ref gcommittee, .int 0, .int 0, .int 0, .int 0, .int 0, .int 0, .int 0, .int 0, .int (-5), .int 0, .int 0, .ref glone, .int 0, .ref gentry, .ref gchange, .int 0, .int (-1), .int 0, .int 0, .ref gyesBy, .ref gnoBy, .int 0, .int 0, .int 0, .int 0, .int 0, .int 0, .ref gdraft, .ref grow, .ref growMany, .ref growFloats, .ref gsaved, .int 0, .int 0, .int 0]))]) {ls : Array Slot} (hl : lv_has ls 4 [(3, .int 0), (2, .ref m0), (1, .ref x0), (0, .ref b)]) : W p l e room_1 s m #[Value.ref b] below meth c H locs 289 13007 (lw_Z below #[Value.ref b] s) (F0 m 694 ls []) := by
  obtain ⟨hx, hb, hr, hml, hown0, hts0, hX, hbl, hlocks, hgv⟩ := id C0
  have hown : s.vm.findClass RL = some m.cls := hown0
  have hts : ∀ w ∈ lw_all, w.before _ s = true := fun w h => hts0 w (List.mem_filter.mp h).1
  have hA : ∀ q : Nat, s.heap.size ≤ q → A q := fun q h => (hAd q).mpr h
  have hbA : ¬ A b := fun h => absurd ((hAd b).mp h) (Nat.not_le.mpr hbl)
  refine lv_aload_n hx hb dL_law_694 rfl (lv_at hl 2 rfl) ?_
  refine lv_aload_n hx hb dL_law_695 rfl (lv_at hl 3 rfl) ?_
  refine lv_iload_n hx hb dL_law_696 rfl (lv_at hl 0 rfl) ?_
  refine lv_iconst (v := 1) hx hb dL_law_697 (by decide) ?_
  refine lv_iadd hx hb dL_law_698 ?_
  refine lv_cst (v := 1) (by decide) ?_
  refine va_sld hx hb hX hbl hbA hS (i := 1) (by unfold vp_in; decide) dL_law_699 ?_
  refine lv_cst (v := zs 1) rfl ?_
  refine p_call (va_runV (As := [.int (zs 1)]) (rest := []) ⟨hx, hb, hml, hown, hts⟩ (c_X11_replayed l D cI cQ cM cR x0 nme sme xr xs nho ndk nsh nmi nba nde nbu ndq ndr (zs 1)) (cwV 1 hts (gV q_896 q_897 q_898 q_65 q_899) rfl rfl rfl (by decide +kernel) ⟨Nat.le_of_ble_eq_true rfl, Nat.le_of_ble_eq_true rfl⟩) ⟨PP_blind, va_recv hK hP (ci := 11) (q0 := 0) rfl rfl, PP_of hK (hP.sub [0, 1, 2] rfl)⟩ rfl rfl hl.1 rfl (lv_room (Nat.le_of_ble_eq_true rfl)) dL_law_700 ⟨Nat.le_of_ble_eq_true rfl, Nat.le_of_ble_eq_true rfl⟩) ?_
  refine lv_aload_n hx hb dL_law_703 rfl (lv_at hl 1 rfl) ?_
  refine lv_aload_n hx hb dL_law_704 rfl (lv_at hl 3 rfl) ?_
  refine lv_iload_n hx hb dL_law_705 rfl (lv_at hl 0 rfl) ?_
  refine lv_iconst (v := 1) hx hb dL_law_706 (by decide) ?_
  refine lv_iadd hx hb dL_law_707 ?_
  refine lv_cst (v := 1) (by decide) ?_
  refine va_sld hx hb hX hbl hbA hS (i := 1) (by unfold vp_in; decide) dL_law_708 ?_
  refine lv_cst (v := zs 1) rfl ?_
  refine p_call (va_runV (As := [.int (zs 1)]) (rest := [.int (-1)]) ⟨hx, hb, hml, hown, hts⟩ (c_X12_replayed l D cI cQ cM cR m0 gweight gpresent gspeeches gbuffer gstate gplace gmover gpart gamended gmany gclause gfirstMany gfirstClause gresolution gmotion gaway gawayMany gawayOrder gtable gcommittee glone gentry gchange gyesBy gnoBy gdraft grow growMany growFloats gsaved (zs 1)) (cwV 1 hts (gV q_1438 q_1439 q_1440 q_76 q_1441) rfl rfl rfl (by decide +kernel) ⟨Nat.le_of_ble_eq_true rfl, Nat.le_of_ble_eq_true rfl⟩) ⟨PP_blind, va_recv hK hP (ci := 12) (q0 := 3) rfl rfl, PP_of hK (hP.sub [3] rfl)⟩ rfl rfl hl.1 rfl (lv_room (Nat.le_of_ble_eq_true rfl)) dL_law_709 ⟨Nat.le_of_ble_eq_true rfl, Nat.le_of_ble_eq_true rfl⟩) ?_
  refine lv_icmp_eq (tgt := 975) hx hb dL_law_712 (by decide) (fun _ => ?_) (fun c9 => absurd (by decide) c9)
  exact law_end l C0 hK hAd hS hl
theorem dL_law_717 : decode cL_law 717 = .ok (.aload_n 1, 1) := by decide +kernel
theorem dL_law_718 : decode cL_law 718 = .ok (.aload_n 0, 1) := by decide +kernel
theorem dL_law_719 : decode cL_law 719 = .ok (.iload_n 3, 1) := by decide +kernel
theorem dL_law_720 : decode cL_law 720 = .ok (.iconst 1, 1) := by decide +kernel
theorem dL_law_721 : decode cL_law 721 = .ok (.iadd, 1) := by decide +kernel
theorem dL_law_722 : decode cL_law 722 = .ok (.iaload, 1) := by decide +kernel
theorem dL_law_723 : decode cL_law 723 = .ok (.aload_n 0, 1) := by decide +kernel
theorem dL_law_724 : decode cL_law 724 = .ok (.iload_n 3, 1) := by decide +kernel
theorem dL_law_725 : decode cL_law 725 = .ok (.iconst 2, 1) := by decide +kernel
theorem dL_law_726 : decode cL_law 726 = .ok (.iadd, 1) := by decide +kernel
theorem dL_law_727 : decode cL_law 727 = .ok (.iaload, 1) := by decide +kernel
theorem dL_law_728 : decode cL_law 728 = .ok (.invokevirtual 93, 3) := by decide +kernel
theorem dL_law_731 : decode cL_law 731 = .ok (.aload_n 2, 1) := by decide +kernel
theorem dL_law_732 : decode cL_law 732 = .ok (.aload_n 0, 1) := by decide +kernel
theorem dL_law_733 : decode cL_law 733 = .ok (.iload_n 3, 1) := by decide +kernel
theorem dL_law_734 : decode cL_law 734 = .ok (.iconst 1, 1) := by decide +kernel
theorem dL_law_735 : decode cL_law 735 = .ok (.iadd, 1) := by decide +kernel
theorem dL_law_736 : decode cL_law 736 = .ok (.iaload, 1) := by decide +kernel
theorem dL_law_737 : decode cL_law 737 = .ok (.aload_n 0, 1) := by decide +kernel
theorem dL_law_738 : decode cL_law 738 = .ok (.iload_n 3, 1) := by decide +kernel
theorem dL_law_739 : decode cL_law 739 = .ok (.iconst 2, 1) := by decide +kernel
theorem dL_law_740 : decode cL_law 740 = .ok (.iadd, 1) := by decide +kernel
theorem dL_law_741 : decode cL_law 741 = .ok (.iaload, 1) := by decide +kernel
theorem dL_law_742 : decode cL_law 742 = .ok (.invokevirtual 96, 3) := by decide +kernel
theorem dL_law_745 : decode cL_law 745 = .ok (.if_icmp .eq 230, 3) := by decide +kernel
set_option maxRecDepth 100000 in
theorem q_1445 : (.code yX12_entry cX12_entry 4 (some .int)) ∈ lw_all := List.mem_filter.mpr ⟨List.mem_of_getElem? (i := 1445) (rfl), by decide +kernel⟩
set_option maxRecDepth 100000 in
theorem q_914 : (.code yX11_entry cX11_entry 3 (some .int)) ∈ lw_all := List.mem_filter.mpr ⟨List.mem_of_getElem? (i := 914) (rfl), by decide +kernel⟩
set_option maxRecDepth 100000 in
theorem q_1443 : (.instanceMethod yX12_entry) ∈ lw_all := List.mem_filter.mpr ⟨List.mem_of_getElem? (i := 1443) (by decide +kernel), by decide +kernel⟩
set_option maxRecDepth 100000 in
theorem q_912 : (.instanceMethod yX11_entry) ∈ lw_all := List.mem_filter.mpr ⟨List.mem_of_getElem? (i := 912) (by decide +kernel), by decide +kernel⟩
set_option maxRecDepth 100000 in
theorem q_911 : (.methodLink RL 93 yX11_entry) ∈ lw_all := List.mem_filter.mpr ⟨List.mem_of_getElem? (i := 911) (by decide +kernel), by decide +kernel⟩
set_option maxRecDepth 100000 in
theorem q_1442 : (.methodLink RL 96 yX12_entry) ∈ lw_all := List.mem_filter.mpr ⟨List.mem_of_getElem? (i := 1442) (by decide +kernel), by decide +kernel⟩
set_option maxRecDepth 100000 in
theorem q_913 : (.selects RX11 yX11_entry yX11_entry) ∈ lw_all := List.mem_filter.mpr ⟨List.mem_of_getElem? (i := 913) (by decide +kernel), by decide +kernel⟩
set_option maxRecDepth 100000 in
theorem q_1444 : (.selects RX12 yX12_entry yX12_entry) ∈ lw_all := List.mem_filter.mpr ⟨List.mem_of_getElem? (i := 1444) (by decide +kernel), by decide +kernel⟩
set_option maxHeartbeats 4000000 in
set_option maxRecDepth 100000 in
theorem law_entry {p : Program} {e : Env} {s : State} {m : MethodId} {below : List Frame} {meth : Method} {c : Code} (l : Launch) {b : Nat} {zs : Nat → Int32} (C0 : lw_At p s m meth c b 6 zs) {D : va_G} {cI cQ cM cR : ClassId} (hK : va_K D vwCl (TY cI cQ cM cR) s) {A : Nat → Prop} (hAd : ∀ q : Nat, A q ↔ s.heap.size ≤ q) {x0 nme sme xr xs nho ndk nsh nmi nba nde nbu nma nmb nmc nmd nmm m0 gweight gpresent gspeeches gbuffer gstate gplace gmover gpart gamended gmany gclause gfirstMany gfirstClause gresolution gmotion gaway gawayMany gawayOrder gtable gcommittee glone gentry gchange gyesBy gnoBy gdraft grow growMany growFloats gsaved : Nat} {H : Heap} {locs : List Loc} (hS : va_S A s.heap H locs) (hP : va_P D vwCl [(x0, .inr (11, [.ref nme, .ref sme, .int 0, .ref xr, .ref xs])), (nme, .inr (4, [.ref nho, .ref ndk, .ref nsh, .ref nmi, .ref nba, .ref nde, .ref nbu, .int 1, .int 0, .null, .int 0, .int 0, .int 0])), (nmi, .inr (5, [.int 0, .int 0, .ref nma, .ref nmb, .ref nmc, .ref nmd, .ref nmm])), (m0, .inr (12, [.ref gweight, .ref gpresent, .ref gspeeches, .int 0, .int 50, .int 0, .int 0, .ref gbuffer, .ref gstate, .ref gplace, .ref gmover, .ref gpart, .ref gamended, .ref gmany, .ref gclause, .ref gfirstMany, .ref gfirstClause, .int 0, .int 0, .int 0, .int (-1), .ref gresolution, .ref gmotion, .ref gaway, .ref gawayMany, .ref gawayOrder, .ref gtable, .ref gcommittee, .int 0, .int 0, .int 0, .int 0, .int 0, .int 0, .int 0, .int 0, .int (-5), .int 0, .int 0, .ref glone, .int 0, .ref gentry, .ref gchange, .int 0, .int (-1), .int 0, .int 0, .ref gyesBy, .ref gnoBy, .int 0, .int 0, .int 0, .int 0, .int 0, .int 0, .ref gdraft, .ref grow, .ref growMany, .ref growFloats, .ref gsaved, .int 0, .int 0, .int 0]))] H) (hD : va_D A [(x0, .inr (11, [.ref nme, .ref sme, .int 0, .ref xr, .ref xs])), (nme, .inr (4, [.ref nho, .ref ndk, .ref nsh, .ref nmi, .ref nba, .ref nde, .ref nbu, .int 1, .int 0, .null, .int 0, .int 0, .int 0])), (nmi, .inr (5, [.int 0, .int 0, .ref nma, .ref nmb, .ref nmc, .ref nmd, .ref nmm])), (m0, .inr (12, [.ref gweight, .ref gpresent, .ref gspeeches, .int 0, .int 50, .int 0, .int 0, .ref gbuffer, .ref gstate, .ref gplace, .ref gmover, .ref gpart, .ref gamended, .ref gmany, .ref gclause, .ref gfirstMany, .ref gfirstClause, .int 0, .int 0, .int 0, .int (-1), .ref gresolution, .ref gmotion, .ref gaway, .ref gawayMany, .ref gawayOrder, .ref gtable, .ref gcommittee, .int 0, .int 0, .int 0, .int 0, .int 0, .int 0, .int 0, .int 0, .int (-5), .int 0, .int 0, .ref glone, .int 0, .ref gentry, .ref gchange, .int 0, .int (-1), .int 0, .int 0, .ref gyesBy, .ref gnoBy, .int 0, .int 0, .int 0, .int 0, .int 0, .int 0, .ref gdraft, .ref grow, .ref growMany, .ref growFloats, .ref gsaved, .int 0, .int 0, .int 0]))]) {ls : Array Slot} (hl : lv_has ls 4 [(3, .int 0), (2, .ref m0), (1, .ref x0), (0, .ref b)]) : W p l e room_1 s m #[Value.ref b] below meth c H locs 289 13007 (lw_Z below #[Value.ref b] s) (F0 m 717 ls []) := by
  obtain ⟨hx, hb, hr, hml, hown0, hts0, hX, hbl, hlocks, hgv⟩ := id C0
  have hown : s.vm.findClass RL = some m.cls := hown0
  have hts : ∀ w ∈ lw_all, w.before _ s = true := fun w h => hts0 w (List.mem_filter.mp h).1
  have hA : ∀ q : Nat, s.heap.size ≤ q → A q := fun q h => (hAd q).mpr h
  have hbA : ¬ A b := fun h => absurd ((hAd b).mp h) (Nat.not_le.mpr hbl)
  refine lv_aload_n hx hb dL_law_717 rfl (lv_at hl 2 rfl) ?_
  refine lv_aload_n hx hb dL_law_718 rfl (lv_at hl 3 rfl) ?_
  refine lv_iload_n hx hb dL_law_719 rfl (lv_at hl 0 rfl) ?_
  refine lv_iconst (v := 1) hx hb dL_law_720 (by decide) ?_
  refine lv_iadd hx hb dL_law_721 ?_
  refine lv_cst (v := 1) (by decide) ?_
  refine va_sld hx hb hX hbl hbA hS (i := 1) (by unfold vp_in; decide) dL_law_722 ?_
  refine lv_cst (v := zs 1) rfl ?_
  refine lv_aload_n hx hb dL_law_723 rfl (lv_at hl 3 rfl) ?_
  refine lv_iload_n hx hb dL_law_724 rfl (lv_at hl 0 rfl) ?_
  refine lv_iconst (v := 2) hx hb dL_law_725 (by decide) ?_
  refine lv_iadd hx hb dL_law_726 ?_
  refine lv_cst (v := 2) (by decide) ?_
  refine va_sld hx hb hX hbl hbA hS (i := 2) (by unfold vp_in; decide) dL_law_727 ?_
  refine lv_cst (v := zs 2) rfl ?_
  refine p_call (va_runV (As := [.int (zs 1), .int (zs 2)]) (rest := []) ⟨hx, hb, hml, hown, hts⟩ (c_X11_entry l D cI cQ cM cR x0 nme sme xr xs nho ndk nsh nmi nba nde nbu nma nmb nmc nmd nmm (zs 1) (zs 2)) (cwV 2 hts (gV q_911 q_912 q_913 q_65 q_914) rfl rfl rfl (by decide +kernel) ⟨Nat.le_of_ble_eq_true rfl, Nat.le_of_ble_eq_true rfl⟩) ⟨PP_blind, va_recv hK hP (ci := 11) (q0 := 0) rfl rfl, PP_of hK (hP.sub [0, 1, 2] rfl)⟩ rfl rfl hl.1 rfl (lv_room (Nat.le_of_ble_eq_true rfl)) dL_law_728 ⟨Nat.le_of_ble_eq_true rfl, Nat.le_of_ble_eq_true rfl⟩) ?_
  refine lv_aload_n hx hb dL_law_731 rfl (lv_at hl 1 rfl) ?_
  refine lv_aload_n hx hb dL_law_732 rfl (lv_at hl 3 rfl) ?_
  refine lv_iload_n hx hb dL_law_733 rfl (lv_at hl 0 rfl) ?_
  refine lv_iconst (v := 1) hx hb dL_law_734 (by decide) ?_
  refine lv_iadd hx hb dL_law_735 ?_
  refine lv_cst (v := 1) (by decide) ?_
  refine va_sld hx hb hX hbl hbA hS (i := 1) (by unfold vp_in; decide) dL_law_736 ?_
  refine lv_cst (v := zs 1) rfl ?_
  refine lv_aload_n hx hb dL_law_737 rfl (lv_at hl 3 rfl) ?_
  refine lv_iload_n hx hb dL_law_738 rfl (lv_at hl 0 rfl) ?_
  refine lv_iconst (v := 2) hx hb dL_law_739 (by decide) ?_
  refine lv_iadd hx hb dL_law_740 ?_
  refine lv_cst (v := 2) (by decide) ?_
  refine va_sld hx hb hX hbl hbA hS (i := 2) (by unfold vp_in; decide) dL_law_741 ?_
  refine lv_cst (v := zs 2) rfl ?_
  refine p_call (va_runV (As := [.int (zs 1), .int (zs 2)]) (rest := [.int (sp_m1 (zs 1))]) ⟨hx, hb, hml, hown, hts⟩ (c_X12_entry l D cI cQ cM cR m0 gweight gpresent gspeeches gbuffer gstate gplace gmover gpart gamended gmany gclause gfirstMany gfirstClause gresolution gmotion gaway gawayMany gawayOrder gtable gcommittee glone gentry gchange gyesBy gnoBy gdraft grow growMany growFloats gsaved (zs 1) (zs 2)) (cwV 2 hts (gV q_1442 q_1443 q_1444 q_76 q_1445) rfl rfl rfl (by decide +kernel) ⟨Nat.le_of_ble_eq_true rfl, Nat.le_of_ble_eq_true rfl⟩) ⟨PP_blind, va_recv hK hP (ci := 12) (q0 := 3) rfl rfl, PP_of hK (hP.sub [3] rfl)⟩ rfl rfl hl.1 rfl (lv_room (Nat.le_of_ble_eq_true rfl)) dL_law_742 ⟨Nat.le_of_ble_eq_true rfl, Nat.le_of_ble_eq_true rfl⟩) ?_
  refine lv_icmp_eq (tgt := 975) hx hb dL_law_745 (by decide) (fun _ => ?_) (fun c9 => absurd (rfl) c9)
  exact law_end l C0 hK hAd hS hl
theorem dL_law_750 : decode cL_law 750 = .ok (.aload_n 1, 1) := by decide +kernel
theorem dL_law_751 : decode cL_law 751 = .ok (.aload_n 0, 1) := by decide +kernel
theorem dL_law_752 : decode cL_law 752 = .ok (.iload_n 3, 1) := by decide +kernel
theorem dL_law_753 : decode cL_law 753 = .ok (.iconst 1, 1) := by decide +kernel
theorem dL_law_754 : decode cL_law 754 = .ok (.iadd, 1) := by decide +kernel
theorem dL_law_755 : decode cL_law 755 = .ok (.iaload, 1) := by decide +kernel
theorem dL_law_756 : decode cL_law 756 = .ok (.invokevirtual 97, 3) := by decide +kernel
theorem dL_law_759 : decode cL_law 759 = .ok (.aload_n 2, 1) := by decide +kernel
theorem dL_law_760 : decode cL_law 760 = .ok (.aload_n 0, 1) := by decide +kernel
theorem dL_law_761 : decode cL_law 761 = .ok (.iload_n 3, 1) := by decide +kernel
theorem dL_law_762 : decode cL_law 762 = .ok (.iconst 1, 1) := by decide +kernel
theorem dL_law_763 : decode cL_law 763 = .ok (.iadd, 1) := by decide +kernel
theorem dL_law_764 : decode cL_law 764 = .ok (.iaload, 1) := by decide +kernel
theorem dL_law_765 : decode cL_law 765 = .ok (.invokevirtual 100, 3) := by decide +kernel
theorem dL_law_768 : decode cL_law 768 = .ok (.if_icmp .eq 207, 3) := by decide +kernel
set_option maxRecDepth 100000 in
theorem q_1449 : (.code yX12_vote cX12_vote 2 (some .int)) ∈ lw_all := List.mem_filter.mpr ⟨List.mem_of_getElem? (i := 1449) (rfl), by decide +kernel⟩
set_option maxRecDepth 100000 in
theorem q_918 : (.code yX11_vote cX11_vote 3 (some .int)) ∈ lw_all := List.mem_filter.mpr ⟨List.mem_of_getElem? (i := 918) (rfl), by decide +kernel⟩
set_option maxRecDepth 100000 in
theorem q_1447 : (.instanceMethod yX12_vote) ∈ lw_all := List.mem_filter.mpr ⟨List.mem_of_getElem? (i := 1447) (by decide +kernel), by decide +kernel⟩
set_option maxRecDepth 100000 in
theorem q_916 : (.instanceMethod yX11_vote) ∈ lw_all := List.mem_filter.mpr ⟨List.mem_of_getElem? (i := 916) (by decide +kernel), by decide +kernel⟩
set_option maxRecDepth 100000 in
theorem q_1446 : (.methodLink RL 100 yX12_vote) ∈ lw_all := List.mem_filter.mpr ⟨List.mem_of_getElem? (i := 1446) (by decide +kernel), by decide +kernel⟩
set_option maxRecDepth 100000 in
theorem q_915 : (.methodLink RL 97 yX11_vote) ∈ lw_all := List.mem_filter.mpr ⟨List.mem_of_getElem? (i := 915) (by decide +kernel), by decide +kernel⟩
set_option maxRecDepth 100000 in
theorem q_917 : (.selects RX11 yX11_vote yX11_vote) ∈ lw_all := List.mem_filter.mpr ⟨List.mem_of_getElem? (i := 917) (by decide +kernel), by decide +kernel⟩
set_option maxRecDepth 100000 in
theorem q_1448 : (.selects RX12 yX12_vote yX12_vote) ∈ lw_all := List.mem_filter.mpr ⟨List.mem_of_getElem? (i := 1448) (by decide +kernel), by decide +kernel⟩
set_option maxHeartbeats 4000000 in
set_option maxRecDepth 100000 in
theorem law_vote {p : Program} {e : Env} {s : State} {m : MethodId} {below : List Frame} {meth : Method} {c : Code} (l : Launch) {b : Nat} {zs : Nat → Int32} (C0 : lw_At p s m meth c b 6 zs) {D : va_G} {cI cQ cM cR : ClassId} (hK : va_K D vwCl (TY cI cQ cM cR) s) {A : Nat → Prop} (hAd : ∀ q : Nat, A q ↔ s.heap.size ≤ q) {x0 nme sme xr xs nho ndk nsh nmi nba nde nbu nby nbn m0 gweight gpresent gspeeches gbuffer gstate gplace gmover gpart gamended gmany gclause gfirstMany gfirstClause gresolution gmotion gaway gawayMany gawayOrder gtable gcommittee glone gentry gchange gyesBy gnoBy gdraft grow growMany growFloats gsaved : Nat} {H : Heap} {locs : List Loc} (hS : va_S A s.heap H locs) (hP : va_P D vwCl [(x0, .inr (11, [.ref nme, .ref sme, .int 0, .ref xr, .ref xs])), (nme, .inr (4, [.ref nho, .ref ndk, .ref nsh, .ref nmi, .ref nba, .ref nde, .ref nbu, .int 1, .int 0, .null, .int 0, .int 0, .int 0])), (nba, .inr (0, [.int 0, .int 0, .int 0, .ref nby, .ref nbn, .int 0, .int 0, .int 0, .int 0, .int 0, .int 99, .int 0, .int 0])), (m0, .inr (12, [.ref gweight, .ref gpresent, .ref gspeeches, .int 0, .int 50, .int 0, .int 0, .ref gbuffer, .ref gstate, .ref gplace, .ref gmover, .ref gpart, .ref gamended, .ref gmany, .ref gclause, .ref gfirstMany, .ref gfirstClause, .int 0, .int 0, .int 0, .int (-1), .ref gresolution, .ref gmotion, .ref gaway, .ref gawayMany, .ref gawayOrder, .ref gtable, .ref gcommittee, .int 0, .int 0, .int 0, .int 0, .int 0, .int 0, .int 0, .int 0, .int (-5), .int 0, .int 0, .ref glone, .int 0, .ref gentry, .ref gchange, .int 0, .int (-1), .int 0, .int 0, .ref gyesBy, .ref gnoBy, .int 0, .int 0, .int 0, .int 0, .int 0, .int 0, .ref gdraft, .ref grow, .ref growMany, .ref growFloats, .ref gsaved, .int 0, .int 0, .int 0]))] H) (hD : va_D A [(x0, .inr (11, [.ref nme, .ref sme, .int 0, .ref xr, .ref xs])), (nme, .inr (4, [.ref nho, .ref ndk, .ref nsh, .ref nmi, .ref nba, .ref nde, .ref nbu, .int 1, .int 0, .null, .int 0, .int 0, .int 0])), (nba, .inr (0, [.int 0, .int 0, .int 0, .ref nby, .ref nbn, .int 0, .int 0, .int 0, .int 0, .int 0, .int 99, .int 0, .int 0])), (m0, .inr (12, [.ref gweight, .ref gpresent, .ref gspeeches, .int 0, .int 50, .int 0, .int 0, .ref gbuffer, .ref gstate, .ref gplace, .ref gmover, .ref gpart, .ref gamended, .ref gmany, .ref gclause, .ref gfirstMany, .ref gfirstClause, .int 0, .int 0, .int 0, .int (-1), .ref gresolution, .ref gmotion, .ref gaway, .ref gawayMany, .ref gawayOrder, .ref gtable, .ref gcommittee, .int 0, .int 0, .int 0, .int 0, .int 0, .int 0, .int 0, .int 0, .int (-5), .int 0, .int 0, .ref glone, .int 0, .ref gentry, .ref gchange, .int 0, .int (-1), .int 0, .int 0, .ref gyesBy, .ref gnoBy, .int 0, .int 0, .int 0, .int 0, .int 0, .int 0, .ref gdraft, .ref grow, .ref growMany, .ref growFloats, .ref gsaved, .int 0, .int 0, .int 0]))]) {ls : Array Slot} (hl : lv_has ls 4 [(3, .int 0), (2, .ref m0), (1, .ref x0), (0, .ref b)]) : W p l e room_1 s m #[Value.ref b] below meth c H locs 289 13007 (lw_Z below #[Value.ref b] s) (F0 m 750 ls []) := by
  obtain ⟨hx, hb, hr, hml, hown0, hts0, hX, hbl, hlocks, hgv⟩ := id C0
  have hown : s.vm.findClass RL = some m.cls := hown0
  have hts : ∀ w ∈ lw_all, w.before _ s = true := fun w h => hts0 w (List.mem_filter.mp h).1
  have hA : ∀ q : Nat, s.heap.size ≤ q → A q := fun q h => (hAd q).mpr h
  have hbA : ¬ A b := fun h => absurd ((hAd b).mp h) (Nat.not_le.mpr hbl)
  refine lv_aload_n hx hb dL_law_750 rfl (lv_at hl 2 rfl) ?_
  refine lv_aload_n hx hb dL_law_751 rfl (lv_at hl 3 rfl) ?_
  refine lv_iload_n hx hb dL_law_752 rfl (lv_at hl 0 rfl) ?_
  refine lv_iconst (v := 1) hx hb dL_law_753 (by decide) ?_
  refine lv_iadd hx hb dL_law_754 ?_
  refine lv_cst (v := 1) (by decide) ?_
  refine va_sld hx hb hX hbl hbA hS (i := 1) (by unfold vp_in; decide) dL_law_755 ?_
  refine lv_cst (v := zs 1) rfl ?_
  refine p_call (va_runV (As := [.int (zs 1)]) (rest := []) ⟨hx, hb, hml, hown, hts⟩ (c_X11_vote l D cI cQ cM cR x0 nme sme xr xs nho ndk nsh nmi nba nde nbu nby nbn (zs 1)) (cwV 1 hts (gV q_915 q_916 q_917 q_65 q_918) rfl rfl rfl (by decide +kernel) ⟨Nat.le_of_ble_eq_true rfl, Nat.le_of_ble_eq_true rfl⟩) ⟨PP_blind, va_recv hK hP (ci := 11) (q0 := 0) rfl rfl, PP_of hK (hP.sub [0, 1, 2] rfl)⟩ rfl rfl hl.1 rfl (lv_room (Nat.le_of_ble_eq_true rfl)) dL_law_756 ⟨Nat.le_of_ble_eq_true rfl, Nat.le_of_ble_eq_true rfl⟩) ?_
  refine lv_aload_n hx hb dL_law_759 rfl (lv_at hl 1 rfl) ?_
  refine lv_aload_n hx hb dL_law_760 rfl (lv_at hl 3 rfl) ?_
  refine lv_iload_n hx hb dL_law_761 rfl (lv_at hl 0 rfl) ?_
  refine lv_iconst (v := 1) hx hb dL_law_762 (by decide) ?_
  refine lv_iadd hx hb dL_law_763 ?_
  refine lv_cst (v := 1) (by decide) ?_
  refine va_sld hx hb hX hbl hbA hS (i := 1) (by unfold vp_in; decide) dL_law_764 ?_
  refine lv_cst (v := zs 1) rfl ?_
  refine p_call (va_runV (As := [.int (zs 1)]) (rest := [.int (-3)]) ⟨hx, hb, hml, hown, hts⟩ (c_X12_vote l D cI cQ cM cR m0 gweight gpresent gspeeches gbuffer gstate gplace gmover gpart gamended gmany gclause gfirstMany gfirstClause gresolution gmotion gaway gawayMany gawayOrder gtable gcommittee glone gentry gchange gyesBy gnoBy gdraft grow growMany growFloats gsaved (zs 1)) (cwV 1 hts (gV q_1446 q_1447 q_1448 q_76 q_1449) rfl rfl rfl (by decide +kernel) ⟨Nat.le_of_ble_eq_true rfl, Nat.le_of_ble_eq_true rfl⟩) ⟨PP_blind, va_recv hK hP (ci := 12) (q0 := 3) rfl rfl, PP_of hK (hP.sub [3] rfl)⟩ rfl rfl hl.1 rfl (lv_room (Nat.le_of_ble_eq_true rfl)) dL_law_765 ⟨Nat.le_of_ble_eq_true rfl, Nat.le_of_ble_eq_true rfl⟩) ?_
  refine lv_icmp_eq (tgt := 975) hx hb dL_law_768 (by decide) (fun _ => ?_) (fun c9 => absurd (by decide) c9)
  exact law_end l C0 hK hAd hS hl
theorem dL_law_773 : decode cL_law 773 = .ok (.aload_n 1, 1) := by decide +kernel
theorem dL_law_774 : decode cL_law 774 = .ok (.aload_n 0, 1) := by decide +kernel
theorem dL_law_775 : decode cL_law 775 = .ok (.iload_n 3, 1) := by decide +kernel
theorem dL_law_776 : decode cL_law 776 = .ok (.iconst 1, 1) := by decide +kernel
theorem dL_law_777 : decode cL_law 777 = .ok (.iadd, 1) := by decide +kernel
theorem dL_law_778 : decode cL_law 778 = .ok (.iaload, 1) := by decide +kernel
theorem dL_law_779 : decode cL_law 779 = .ok (.invokevirtual 101, 3) := by decide +kernel
theorem dL_law_782 : decode cL_law 782 = .ok (.aload_n 2, 1) := by decide +kernel
theorem dL_law_783 : decode cL_law 783 = .ok (.aload_n 0, 1) := by decide +kernel
theorem dL_law_784 : decode cL_law 784 = .ok (.iload_n 3, 1) := by decide +kernel
theorem dL_law_785 : decode cL_law 785 = .ok (.iconst 1, 1) := by decide +kernel
theorem dL_law_786 : decode cL_law 786 = .ok (.iadd, 1) := by decide +kernel
theorem dL_law_787 : decode cL_law 787 = .ok (.iaload, 1) := by decide +kernel
theorem dL_law_788 : decode cL_law 788 = .ok (.invokevirtual 104, 3) := by decide +kernel
theorem dL_law_791 : decode cL_law 791 = .ok (.if_icmp .eq 184, 3) := by decide +kernel
set_option maxRecDepth 100000 in
theorem q_1466 : (.code yX12_count cX12_count 2 (some .int)) ∈ lw_all := List.mem_filter.mpr ⟨List.mem_of_getElem? (i := 1466) (rfl), by decide +kernel⟩
set_option maxRecDepth 100000 in
theorem q_926 : (.code yX11_count cX11_count 2 (some .int)) ∈ lw_all := List.mem_filter.mpr ⟨List.mem_of_getElem? (i := 926) (rfl), by decide +kernel⟩
set_option maxRecDepth 100000 in
theorem q_1464 : (.instanceMethod yX12_count) ∈ lw_all := List.mem_filter.mpr ⟨List.mem_of_getElem? (i := 1464) (by decide +kernel), by decide +kernel⟩
set_option maxRecDepth 100000 in
theorem q_924 : (.instanceMethod yX11_count) ∈ lw_all := List.mem_filter.mpr ⟨List.mem_of_getElem? (i := 924) (by decide +kernel), by decide +kernel⟩
set_option maxRecDepth 100000 in
theorem q_923 : (.methodLink RL 101 yX11_count) ∈ lw_all := List.mem_filter.mpr ⟨List.mem_of_getElem? (i := 923) (by decide +kernel), by decide +kernel⟩
set_option maxRecDepth 100000 in
theorem q_1463 : (.methodLink RL 104 yX12_count) ∈ lw_all := List.mem_filter.mpr ⟨List.mem_of_getElem? (i := 1463) (by decide +kernel), by decide +kernel⟩
set_option maxRecDepth 100000 in
theorem q_925 : (.selects RX11 yX11_count yX11_count) ∈ lw_all := List.mem_filter.mpr ⟨List.mem_of_getElem? (i := 925) (by decide +kernel), by decide +kernel⟩
set_option maxRecDepth 100000 in
theorem q_1465 : (.selects RX12 yX12_count yX12_count) ∈ lw_all := List.mem_filter.mpr ⟨List.mem_of_getElem? (i := 1465) (by decide +kernel), by decide +kernel⟩
set_option maxHeartbeats 4000000 in
set_option maxRecDepth 100000 in
theorem law_count {p : Program} {e : Env} {s : State} {m : MethodId} {below : List Frame} {meth : Method} {c : Code} (l : Launch) {b : Nat} {zs : Nat → Int32} (C0 : lw_At p s m meth c b 6 zs) {D : va_G} {cI cQ cM cR : ClassId} (hK : va_K D vwCl (TY cI cQ cM cR) s) {A : Nat → Prop} (hAd : ∀ q : Nat, A q ↔ s.heap.size ≤ q) {x0 nme sme xr xs nho ndk nsh nmi nba nde nbu nhw nhs ndq ndr nst nss nsp nby nbn m0 gweight gpresent gspeeches gbuffer gstate gplace gmover gpart gamended gmany gclause gfirstMany gfirstClause gresolution gmotion gaway gawayMany gawayOrder gtable gcommittee glone gentry gchange gyesBy gnoBy gdraft grow growMany growFloats gsaved : Nat} {H : Heap} {locs : List Loc} (hS : va_S A s.heap H locs) (hP : va_P D vwCl [(x0, .inr (11, [.ref nme, .ref sme, .int 0, .ref xr, .ref xs])), (nme, .inr (4, [.ref nho, .ref ndk, .ref nsh, .ref nmi, .ref nba, .ref nde, .ref nbu, .int 1, .int 0, .null, .int 0, .int 0, .int 0])), (nho, .inr (3, [.int 0, .int 50, .int 0, .ref nhw, .ref nhs])), (ndk, .inr (2, [.int 0, .int 0, .ref ndq, .ref ndr])), (nsh, .inr (9, [.int 0, .ref nst, .ref nss, .ref nsp])), (nba, .inr (0, [.int 0, .int 0, .int 0, .ref nby, .ref nbn, .int 0, .int 0, .int 0, .int 0, .int 0, .int 99, .int 0, .int 0])), (m0, .inr (12, [.ref gweight, .ref gpresent, .ref gspeeches, .int 0, .int 50, .int 0, .int 0, .ref gbuffer, .ref gstate, .ref gplace, .ref gmover, .ref gpart, .ref gamended, .ref gmany, .ref gclause, .ref gfirstMany, .ref gfirstClause, .int 0, .int 0, .int 0, .int (-1), .ref gresolution, .ref gmotion, .ref gaway, .ref gawayMany, .ref gawayOrder, .ref gtable, .ref gcommittee, .int 0, .int 0, .int 0, .int 0, .int 0, .int 0, .int 0, .int 0, .int (-5), .int 0, .int 0, .ref glone, .int 0, .ref gentry, .ref gchange, .int 0, .int (-1), .int 0, .int 0, .ref gyesBy, .ref gnoBy, .int 0, .int 0, .int 0, .int 0, .int 0, .int 0, .ref gdraft, .ref grow, .ref growMany, .ref growFloats, .ref gsaved, .int 0, .int 0, .int 0]))] H) (hD : va_D A [(x0, .inr (11, [.ref nme, .ref sme, .int 0, .ref xr, .ref xs])), (nme, .inr (4, [.ref nho, .ref ndk, .ref nsh, .ref nmi, .ref nba, .ref nde, .ref nbu, .int 1, .int 0, .null, .int 0, .int 0, .int 0])), (nho, .inr (3, [.int 0, .int 50, .int 0, .ref nhw, .ref nhs])), (ndk, .inr (2, [.int 0, .int 0, .ref ndq, .ref ndr])), (nsh, .inr (9, [.int 0, .ref nst, .ref nss, .ref nsp])), (nba, .inr (0, [.int 0, .int 0, .int 0, .ref nby, .ref nbn, .int 0, .int 0, .int 0, .int 0, .int 0, .int 99, .int 0, .int 0])), (m0, .inr (12, [.ref gweight, .ref gpresent, .ref gspeeches, .int 0, .int 50, .int 0, .int 0, .ref gbuffer, .ref gstate, .ref gplace, .ref gmover, .ref gpart, .ref gamended, .ref gmany, .ref gclause, .ref gfirstMany, .ref gfirstClause, .int 0, .int 0, .int 0, .int (-1), .ref gresolution, .ref gmotion, .ref gaway, .ref gawayMany, .ref gawayOrder, .ref gtable, .ref gcommittee, .int 0, .int 0, .int 0, .int 0, .int 0, .int 0, .int 0, .int 0, .int (-5), .int 0, .int 0, .ref glone, .int 0, .ref gentry, .ref gchange, .int 0, .int (-1), .int 0, .int 0, .ref gyesBy, .ref gnoBy, .int 0, .int 0, .int 0, .int 0, .int 0, .int 0, .ref gdraft, .ref grow, .ref growMany, .ref growFloats, .ref gsaved, .int 0, .int 0, .int 0]))]) {ls : Array Slot} (hl : lv_has ls 4 [(3, .int 0), (2, .ref m0), (1, .ref x0), (0, .ref b)]) : W p l e room_1 s m #[Value.ref b] below meth c H locs 289 13007 (lw_Z below #[Value.ref b] s) (F0 m 773 ls []) := by
  obtain ⟨hx, hb, hr, hml, hown0, hts0, hX, hbl, hlocks, hgv⟩ := id C0
  have hown : s.vm.findClass RL = some m.cls := hown0
  have hts : ∀ w ∈ lw_all, w.before _ s = true := fun w h => hts0 w (List.mem_filter.mp h).1
  have hA : ∀ q : Nat, s.heap.size ≤ q → A q := fun q h => (hAd q).mpr h
  have hbA : ¬ A b := fun h => absurd ((hAd b).mp h) (Nat.not_le.mpr hbl)
  refine lv_aload_n hx hb dL_law_773 rfl (lv_at hl 2 rfl) ?_
  refine lv_aload_n hx hb dL_law_774 rfl (lv_at hl 3 rfl) ?_
  refine lv_iload_n hx hb dL_law_775 rfl (lv_at hl 0 rfl) ?_
  refine lv_iconst (v := 1) hx hb dL_law_776 (by decide) ?_
  refine lv_iadd hx hb dL_law_777 ?_
  refine lv_cst (v := 1) (by decide) ?_
  refine va_sld hx hb hX hbl hbA hS (i := 1) (by unfold vp_in; decide) dL_law_778 ?_
  refine lv_cst (v := zs 1) rfl ?_
  refine p_call (va_runV (As := [.int (zs 1)]) (rest := []) ⟨hx, hb, hml, hown, hts⟩ (c_X11_count l D cI cQ cM cR x0 nme sme xr xs nho ndk nsh nmi nba nde nbu nhw nhs ndq ndr nst nss nsp nby nbn (zs 1)) (cwV 1 hts (gV q_923 q_924 q_925 q_65 q_926) rfl rfl rfl (by decide +kernel) ⟨Nat.le_of_ble_eq_true rfl, Nat.le_of_ble_eq_true rfl⟩) ⟨PP_blind, va_recv hK hP (ci := 11) (q0 := 0) rfl rfl, PP_of hK (hP.sub [0, 1, 2, 3, 4, 5] rfl)⟩ rfl rfl hl.1 rfl (lv_room (Nat.le_of_ble_eq_true rfl)) dL_law_779 ⟨Nat.le_of_ble_eq_true rfl, Nat.le_of_ble_eq_true rfl⟩) ?_
  refine lv_aload_n hx hb dL_law_782 rfl (lv_at hl 1 rfl) ?_
  refine lv_aload_n hx hb dL_law_783 rfl (lv_at hl 3 rfl) ?_
  refine lv_iload_n hx hb dL_law_784 rfl (lv_at hl 0 rfl) ?_
  refine lv_iconst (v := 1) hx hb dL_law_785 (by decide) ?_
  refine lv_iadd hx hb dL_law_786 ?_
  refine lv_cst (v := 1) (by decide) ?_
  refine va_sld hx hb hX hbl hbA hS (i := 1) (by unfold vp_in; decide) dL_law_787 ?_
  refine lv_cst (v := zs 1) rfl ?_
  refine p_call (va_runV (As := [.int (zs 1)]) (rest := [.int (sp_count (zs 1))]) ⟨hx, hb, hml, hown, hts⟩ (c_X12_count l D cI cQ cM cR m0 gweight gpresent gspeeches gbuffer gstate gplace gmover gpart gamended gmany gclause gfirstMany gfirstClause gresolution gmotion gaway gawayMany gawayOrder gtable gcommittee glone gentry gchange gyesBy gnoBy gdraft grow growMany growFloats gsaved (zs 1)) (cwV 1 hts (gV q_1463 q_1464 q_1465 q_76 q_1466) rfl rfl rfl (by decide +kernel) ⟨Nat.le_of_ble_eq_true rfl, Nat.le_of_ble_eq_true rfl⟩) ⟨PP_blind, va_recv hK hP (ci := 12) (q0 := 6) rfl rfl, PP_of hK (hP.sub [6] rfl)⟩ rfl rfl hl.1 rfl (lv_room (Nat.le_of_ble_eq_true rfl)) dL_law_788 ⟨Nat.le_of_ble_eq_true rfl, Nat.le_of_ble_eq_true rfl⟩) ?_
  refine lv_icmp_eq (tgt := 975) hx hb dL_law_791 (by decide) (fun _ => ?_) (fun c9 => absurd (rfl) c9)
  exact law_end l C0 hK hAd hS hl
theorem dL_law_796 : decode cL_law 796 = .ok (.aload_n 1, 1) := by decide +kernel
theorem dL_law_797 : decode cL_law 797 = .ok (.aload_n 0, 1) := by decide +kernel
theorem dL_law_798 : decode cL_law 798 = .ok (.iload_n 3, 1) := by decide +kernel
theorem dL_law_799 : decode cL_law 799 = .ok (.iconst 1, 1) := by decide +kernel
theorem dL_law_800 : decode cL_law 800 = .ok (.iadd, 1) := by decide +kernel
theorem dL_law_801 : decode cL_law 801 = .ok (.iaload, 1) := by decide +kernel
theorem dL_law_802 : decode cL_law 802 = .ok (.aload_n 0, 1) := by decide +kernel
theorem dL_law_803 : decode cL_law 803 = .ok (.iload_n 3, 1) := by decide +kernel
theorem dL_law_804 : decode cL_law 804 = .ok (.iconst 2, 1) := by decide +kernel
theorem dL_law_805 : decode cL_law 805 = .ok (.iadd, 1) := by decide +kernel
theorem dL_law_806 : decode cL_law 806 = .ok (.iaload, 1) := by decide +kernel
theorem dL_law_807 : decode cL_law 807 = .ok (.aload_n 0, 1) := by decide +kernel
theorem dL_law_808 : decode cL_law 808 = .ok (.iload_n 3, 1) := by decide +kernel
theorem dL_law_809 : decode cL_law 809 = .ok (.iconst 3, 1) := by decide +kernel
theorem dL_law_810 : decode cL_law 810 = .ok (.iadd, 1) := by decide +kernel
theorem dL_law_811 : decode cL_law 811 = .ok (.iaload, 1) := by decide +kernel
theorem dL_law_812 : decode cL_law 812 = .ok (.invokevirtual 105, 3) := by decide +kernel
theorem dL_law_815 : decode cL_law 815 = .ok (.aload_n 2, 1) := by decide +kernel
theorem dL_law_816 : decode cL_law 816 = .ok (.aload_n 0, 1) := by decide +kernel
theorem dL_law_817 : decode cL_law 817 = .ok (.iload_n 3, 1) := by decide +kernel
theorem dL_law_818 : decode cL_law 818 = .ok (.iconst 1, 1) := by decide +kernel
theorem dL_law_819 : decode cL_law 819 = .ok (.iadd, 1) := by decide +kernel
theorem dL_law_820 : decode cL_law 820 = .ok (.iaload, 1) := by decide +kernel
theorem dL_law_821 : decode cL_law 821 = .ok (.aload_n 0, 1) := by decide +kernel
theorem dL_law_822 : decode cL_law 822 = .ok (.iload_n 3, 1) := by decide +kernel
theorem dL_law_823 : decode cL_law 823 = .ok (.iconst 2, 1) := by decide +kernel
theorem dL_law_824 : decode cL_law 824 = .ok (.iadd, 1) := by decide +kernel
theorem dL_law_825 : decode cL_law 825 = .ok (.iaload, 1) := by decide +kernel
theorem dL_law_826 : decode cL_law 826 = .ok (.aload_n 0, 1) := by decide +kernel
theorem dL_law_827 : decode cL_law 827 = .ok (.iload_n 3, 1) := by decide +kernel
theorem dL_law_828 : decode cL_law 828 = .ok (.iconst 3, 1) := by decide +kernel
theorem dL_law_829 : decode cL_law 829 = .ok (.iadd, 1) := by decide +kernel
theorem dL_law_830 : decode cL_law 830 = .ok (.iaload, 1) := by decide +kernel
theorem dL_law_831 : decode cL_law 831 = .ok (.invokevirtual 109, 3) := by decide +kernel
theorem dL_law_834 : decode cL_law 834 = .ok (.if_icmp .eq 141, 3) := by decide +kernel
set_option maxRecDepth 100000 in
theorem q_1482 : (.code yX12_store cX12_store 8 (some .int)) ∈ lw_all := List.mem_filter.mpr ⟨List.mem_of_getElem? (i := 1482) (rfl), by decide +kernel⟩
set_option maxRecDepth 100000 in
theorem q_940 : (.code yX11_store cX11_store 4 (some .int)) ∈ lw_all := List.mem_filter.mpr ⟨List.mem_of_getElem? (i := 940) (rfl), by decide +kernel⟩
set_option maxRecDepth 100000 in
theorem q_1480 : (.instanceMethod yX12_store) ∈ lw_all := List.mem_filter.mpr ⟨List.mem_of_getElem? (i := 1480) (by decide +kernel), by decide +kernel⟩
set_option maxRecDepth 100000 in
theorem q_938 : (.instanceMethod yX11_store) ∈ lw_all := List.mem_filter.mpr ⟨List.mem_of_getElem? (i := 938) (by decide +kernel), by decide +kernel⟩
set_option maxRecDepth 100000 in
theorem q_937 : (.methodLink RL 105 yX11_store) ∈ lw_all := List.mem_filter.mpr ⟨List.mem_of_getElem? (i := 937) (by decide +kernel), by decide +kernel⟩
set_option maxRecDepth 100000 in
theorem q_1479 : (.methodLink RL 109 yX12_store) ∈ lw_all := List.mem_filter.mpr ⟨List.mem_of_getElem? (i := 1479) (by decide +kernel), by decide +kernel⟩
set_option maxRecDepth 100000 in
theorem q_939 : (.selects RX11 yX11_store yX11_store) ∈ lw_all := List.mem_filter.mpr ⟨List.mem_of_getElem? (i := 939) (by decide +kernel), by decide +kernel⟩
set_option maxRecDepth 100000 in
theorem q_1481 : (.selects RX12 yX12_store yX12_store) ∈ lw_all := List.mem_filter.mpr ⟨List.mem_of_getElem? (i := 1481) (by decide +kernel), by decide +kernel⟩
set_option maxHeartbeats 4000000 in
set_option maxRecDepth 100000 in
theorem law_store {p : Program} {e : Env} {s : State} {m : MethodId} {below : List Frame} {meth : Method} {c : Code} (l : Launch) {b : Nat} {zs : Nat → Int32} (C0 : lw_At p s m meth c b 6 zs) {D : va_G} {cI cQ cM cR : ClassId} (hK : va_K D vwCl (TY cI cQ cM cR) s) {A : Nat → Prop} (hAd : ∀ q : Nat, A q ↔ s.heap.size ≤ q) {x0 nme sme xr xs nho ndk nsh nmi nba nde nbu nby nbn m0 gweight gpresent gspeeches gbuffer gstate gplace gmover gpart gamended gmany gclause gfirstMany gfirstClause gresolution gmotion gaway gawayMany gawayOrder gtable gcommittee glone gentry gchange gyesBy gnoBy gdraft grow growMany growFloats gsaved : Nat} {H : Heap} {locs : List Loc} (hS : va_S A s.heap H locs) (hP : va_P D vwCl [(x0, .inr (11, [.ref nme, .ref sme, .int 0, .ref xr, .ref xs])), (nme, .inr (4, [.ref nho, .ref ndk, .ref nsh, .ref nmi, .ref nba, .ref nde, .ref nbu, .int 1, .int 0, .null, .int 0, .int 0, .int 0])), (nba, .inr (0, [.int 0, .int 0, .int 0, .ref nby, .ref nbn, .int 0, .int 0, .int 0, .int 0, .int 0, .int 99, .int 0, .int 0])), (m0, .inr (12, [.ref gweight, .ref gpresent, .ref gspeeches, .int 0, .int 50, .int 0, .int 0, .ref gbuffer, .ref gstate, .ref gplace, .ref gmover, .ref gpart, .ref gamended, .ref gmany, .ref gclause, .ref gfirstMany, .ref gfirstClause, .int 0, .int 0, .int 0, .int (-1), .ref gresolution, .ref gmotion, .ref gaway, .ref gawayMany, .ref gawayOrder, .ref gtable, .ref gcommittee, .int 0, .int 0, .int 0, .int 0, .int 0, .int 0, .int 0, .int 0, .int (-5), .int 0, .int 0, .ref glone, .int 0, .ref gentry, .ref gchange, .int 0, .int (-1), .int 0, .int 0, .ref gyesBy, .ref gnoBy, .int 0, .int 0, .int 0, .int 0, .int 0, .int 0, .ref gdraft, .ref grow, .ref growMany, .ref growFloats, .ref gsaved, .int 0, .int 0, .int 0]))] H) (hD : va_D A [(x0, .inr (11, [.ref nme, .ref sme, .int 0, .ref xr, .ref xs])), (nme, .inr (4, [.ref nho, .ref ndk, .ref nsh, .ref nmi, .ref nba, .ref nde, .ref nbu, .int 1, .int 0, .null, .int 0, .int 0, .int 0])), (nba, .inr (0, [.int 0, .int 0, .int 0, .ref nby, .ref nbn, .int 0, .int 0, .int 0, .int 0, .int 0, .int 99, .int 0, .int 0])), (m0, .inr (12, [.ref gweight, .ref gpresent, .ref gspeeches, .int 0, .int 50, .int 0, .int 0, .ref gbuffer, .ref gstate, .ref gplace, .ref gmover, .ref gpart, .ref gamended, .ref gmany, .ref gclause, .ref gfirstMany, .ref gfirstClause, .int 0, .int 0, .int 0, .int (-1), .ref gresolution, .ref gmotion, .ref gaway, .ref gawayMany, .ref gawayOrder, .ref gtable, .ref gcommittee, .int 0, .int 0, .int 0, .int 0, .int 0, .int 0, .int 0, .int 0, .int (-5), .int 0, .int 0, .ref glone, .int 0, .ref gentry, .ref gchange, .int 0, .int (-1), .int 0, .int 0, .ref gyesBy, .ref gnoBy, .int 0, .int 0, .int 0, .int 0, .int 0, .int 0, .ref gdraft, .ref grow, .ref growMany, .ref growFloats, .ref gsaved, .int 0, .int 0, .int 0]))]) {ls : Array Slot} (hl : lv_has ls 4 [(3, .int 0), (2, .ref m0), (1, .ref x0), (0, .ref b)]) : W p l e room_1 s m #[Value.ref b] below meth c H locs 289 13007 (lw_Z below #[Value.ref b] s) (F0 m 796 ls []) := by
  obtain ⟨hx, hb, hr, hml, hown0, hts0, hX, hbl, hlocks, hgv⟩ := id C0
  have hown : s.vm.findClass RL = some m.cls := hown0
  have hts : ∀ w ∈ lw_all, w.before _ s = true := fun w h => hts0 w (List.mem_filter.mp h).1
  have hA : ∀ q : Nat, s.heap.size ≤ q → A q := fun q h => (hAd q).mpr h
  have hbA : ¬ A b := fun h => absurd ((hAd b).mp h) (Nat.not_le.mpr hbl)
  refine lv_aload_n hx hb dL_law_796 rfl (lv_at hl 2 rfl) ?_
  refine lv_aload_n hx hb dL_law_797 rfl (lv_at hl 3 rfl) ?_
  refine lv_iload_n hx hb dL_law_798 rfl (lv_at hl 0 rfl) ?_
  refine lv_iconst (v := 1) hx hb dL_law_799 (by decide) ?_
  refine lv_iadd hx hb dL_law_800 ?_
  refine lv_cst (v := 1) (by decide) ?_
  refine va_sld hx hb hX hbl hbA hS (i := 1) (by unfold vp_in; decide) dL_law_801 ?_
  refine lv_cst (v := zs 1) rfl ?_
  refine lv_aload_n hx hb dL_law_802 rfl (lv_at hl 3 rfl) ?_
  refine lv_iload_n hx hb dL_law_803 rfl (lv_at hl 0 rfl) ?_
  refine lv_iconst (v := 2) hx hb dL_law_804 (by decide) ?_
  refine lv_iadd hx hb dL_law_805 ?_
  refine lv_cst (v := 2) (by decide) ?_
  refine va_sld hx hb hX hbl hbA hS (i := 2) (by unfold vp_in; decide) dL_law_806 ?_
  refine lv_cst (v := zs 2) rfl ?_
  refine lv_aload_n hx hb dL_law_807 rfl (lv_at hl 3 rfl) ?_
  refine lv_iload_n hx hb dL_law_808 rfl (lv_at hl 0 rfl) ?_
  refine lv_iconst (v := 3) hx hb dL_law_809 (by decide) ?_
  refine lv_iadd hx hb dL_law_810 ?_
  refine lv_cst (v := 3) (by decide) ?_
  refine va_sld hx hb hX hbl hbA hS (i := 3) (by unfold vp_in; decide) dL_law_811 ?_
  refine lv_cst (v := zs 3) rfl ?_
  refine p_call (va_runV (As := [.int (zs 1), .int (zs 2), .int (zs 3)]) (rest := []) ⟨hx, hb, hml, hown, hts⟩ (c_X11_store l D cI cQ cM cR x0 nme sme xr xs nho ndk nsh nmi nba nde nbu nby nbn (zs 1) (zs 2) (zs 3)) (cwV 3 hts (gV q_937 q_938 q_939 q_65 q_940) rfl rfl rfl (by decide +kernel) ⟨Nat.le_of_ble_eq_true rfl, Nat.le_of_ble_eq_true rfl⟩) ⟨PP_blind, va_recv hK hP (ci := 11) (q0 := 0) rfl rfl, PP_of hK (hP.sub [0, 1, 2] rfl)⟩ rfl rfl hl.1 rfl (lv_room (Nat.le_of_ble_eq_true rfl)) dL_law_812 ⟨Nat.le_of_ble_eq_true rfl, Nat.le_of_ble_eq_true rfl⟩) ?_
  refine lv_aload_n hx hb dL_law_815 rfl (lv_at hl 1 rfl) ?_
  refine lv_aload_n hx hb dL_law_816 rfl (lv_at hl 3 rfl) ?_
  refine lv_iload_n hx hb dL_law_817 rfl (lv_at hl 0 rfl) ?_
  refine lv_iconst (v := 1) hx hb dL_law_818 (by decide) ?_
  refine lv_iadd hx hb dL_law_819 ?_
  refine lv_cst (v := 1) (by decide) ?_
  refine va_sld hx hb hX hbl hbA hS (i := 1) (by unfold vp_in; decide) dL_law_820 ?_
  refine lv_cst (v := zs 1) rfl ?_
  refine lv_aload_n hx hb dL_law_821 rfl (lv_at hl 3 rfl) ?_
  refine lv_iload_n hx hb dL_law_822 rfl (lv_at hl 0 rfl) ?_
  refine lv_iconst (v := 2) hx hb dL_law_823 (by decide) ?_
  refine lv_iadd hx hb dL_law_824 ?_
  refine lv_cst (v := 2) (by decide) ?_
  refine va_sld hx hb hX hbl hbA hS (i := 2) (by unfold vp_in; decide) dL_law_825 ?_
  refine lv_cst (v := zs 2) rfl ?_
  refine lv_aload_n hx hb dL_law_826 rfl (lv_at hl 3 rfl) ?_
  refine lv_iload_n hx hb dL_law_827 rfl (lv_at hl 0 rfl) ?_
  refine lv_iconst (v := 3) hx hb dL_law_828 (by decide) ?_
  refine lv_iadd hx hb dL_law_829 ?_
  refine lv_cst (v := 3) (by decide) ?_
  refine va_sld hx hb hX hbl hbA hS (i := 3) (by unfold vp_in; decide) dL_law_830 ?_
  refine lv_cst (v := zs 3) rfl ?_
  refine p_call (va_runV (As := [.int (zs 1), .int (zs 2), .int (zs 3)]) (rest := [.int ((sp_store (zs 1) (zs 2) (zs 3)))]) ⟨hx, hb, hml, hown, hts⟩ (c_X12_store l D cI cQ cM cR m0 gweight gpresent gspeeches gbuffer gstate gplace gmover gpart gamended gmany gclause gfirstMany gfirstClause gresolution gmotion gaway gawayMany gawayOrder gtable gcommittee glone gentry gchange gyesBy gnoBy gdraft grow growMany growFloats gsaved (zs 1) (zs 2) (zs 3)) (cwV 3 hts (gV q_1479 q_1480 q_1481 q_76 q_1482) rfl rfl rfl (by decide +kernel) ⟨Nat.le_of_ble_eq_true rfl, Nat.le_of_ble_eq_true rfl⟩) ⟨PP_blind, va_recv hK hP (ci := 12) (q0 := 3) rfl rfl, PP_of hK (hP.sub [3] rfl)⟩ rfl rfl hl.1 rfl (lv_room (Nat.le_of_ble_eq_true rfl)) dL_law_831 ⟨Nat.le_of_ble_eq_true rfl, Nat.le_of_ble_eq_true rfl⟩) ?_
  refine lv_icmp_eq (tgt := 975) hx hb dL_law_834 (by decide) (fun _ => ?_) (fun c9 => absurd (rfl) c9)
  exact law_end l C0 hK hAd hS hl
theorem dL_law_839 : decode cL_law 839 = .ok (.aload_n 1, 1) := by decide +kernel
theorem dL_law_840 : decode cL_law 840 = .ok (.aload_n 0, 1) := by decide +kernel
theorem dL_law_841 : decode cL_law 841 = .ok (.iload_n 3, 1) := by decide +kernel
theorem dL_law_842 : decode cL_law 842 = .ok (.iconst 1, 1) := by decide +kernel
theorem dL_law_843 : decode cL_law 843 = .ok (.iadd, 1) := by decide +kernel
theorem dL_law_844 : decode cL_law 844 = .ok (.iaload, 1) := by decide +kernel
theorem dL_law_845 : decode cL_law 845 = .ok (.aload_n 0, 1) := by decide +kernel
theorem dL_law_846 : decode cL_law 846 = .ok (.iload_n 3, 1) := by decide +kernel
theorem dL_law_847 : decode cL_law 847 = .ok (.iconst 2, 1) := by decide +kernel
theorem dL_law_848 : decode cL_law 848 = .ok (.iadd, 1) := by decide +kernel
theorem dL_law_849 : decode cL_law 849 = .ok (.iaload, 1) := by decide +kernel
theorem dL_law_850 : decode cL_law 850 = .ok (.aload_n 0, 1) := by decide +kernel
theorem dL_law_851 : decode cL_law 851 = .ok (.iload_n 3, 1) := by decide +kernel
theorem dL_law_852 : decode cL_law 852 = .ok (.iconst 3, 1) := by decide +kernel
theorem dL_law_853 : decode cL_law 853 = .ok (.iadd, 1) := by decide +kernel
theorem dL_law_854 : decode cL_law 854 = .ok (.iaload, 1) := by decide +kernel
theorem dL_law_855 : decode cL_law 855 = .ok (.invokevirtual 110, 3) := by decide +kernel
theorem dL_law_858 : decode cL_law 858 = .ok (.aload_n 2, 1) := by decide +kernel
theorem dL_law_859 : decode cL_law 859 = .ok (.aload_n 0, 1) := by decide +kernel
theorem dL_law_860 : decode cL_law 860 = .ok (.iload_n 3, 1) := by decide +kernel
theorem dL_law_861 : decode cL_law 861 = .ok (.iconst 1, 1) := by decide +kernel
theorem dL_law_862 : decode cL_law 862 = .ok (.iadd, 1) := by decide +kernel
theorem dL_law_863 : decode cL_law 863 = .ok (.iaload, 1) := by decide +kernel
theorem dL_law_864 : decode cL_law 864 = .ok (.aload_n 0, 1) := by decide +kernel
theorem dL_law_865 : decode cL_law 865 = .ok (.iload_n 3, 1) := by decide +kernel
theorem dL_law_866 : decode cL_law 866 = .ok (.iconst 2, 1) := by decide +kernel
theorem dL_law_867 : decode cL_law 867 = .ok (.iadd, 1) := by decide +kernel
theorem dL_law_868 : decode cL_law 868 = .ok (.iaload, 1) := by decide +kernel
theorem dL_law_869 : decode cL_law 869 = .ok (.aload_n 0, 1) := by decide +kernel
theorem dL_law_870 : decode cL_law 870 = .ok (.iload_n 3, 1) := by decide +kernel
theorem dL_law_871 : decode cL_law 871 = .ok (.iconst 3, 1) := by decide +kernel
theorem dL_law_872 : decode cL_law 872 = .ok (.iadd, 1) := by decide +kernel
theorem dL_law_873 : decode cL_law 873 = .ok (.iaload, 1) := by decide +kernel
theorem dL_law_874 : decode cL_law 874 = .ok (.invokevirtual 113, 3) := by decide +kernel
theorem dL_law_877 : decode cL_law 877 = .ok (.if_icmp .eq 98, 3) := by decide +kernel
set_option maxRecDepth 100000 in
theorem q_1489 : (.code yX12_copy cX12_copy 6 (some .int)) ∈ lw_all := List.mem_filter.mpr ⟨List.mem_of_getElem? (i := 1489) (rfl), by decide +kernel⟩
set_option maxRecDepth 100000 in
theorem q_951 : (.code yX11_copy cX11_copy 4 (some .int)) ∈ lw_all := List.mem_filter.mpr ⟨List.mem_of_getElem? (i := 951) (rfl), by decide +kernel⟩
set_option maxRecDepth 100000 in
theorem q_1487 : (.instanceMethod yX12_copy) ∈ lw_all := List.mem_filter.mpr ⟨List.mem_of_getElem? (i := 1487) (by decide +kernel), by decide +kernel⟩
set_option maxRecDepth 100000 in
theorem q_949 : (.instanceMethod yX11_copy) ∈ lw_all := List.mem_filter.mpr ⟨List.mem_of_getElem? (i := 949) (by decide +kernel), by decide +kernel⟩
set_option maxRecDepth 100000 in
theorem q_948 : (.methodLink RL 110 yX11_copy) ∈ lw_all := List.mem_filter.mpr ⟨List.mem_of_getElem? (i := 948) (by decide +kernel), by decide +kernel⟩
set_option maxRecDepth 100000 in
theorem q_1486 : (.methodLink RL 113 yX12_copy) ∈ lw_all := List.mem_filter.mpr ⟨List.mem_of_getElem? (i := 1486) (by decide +kernel), by decide +kernel⟩
set_option maxRecDepth 100000 in
theorem q_950 : (.selects RX11 yX11_copy yX11_copy) ∈ lw_all := List.mem_filter.mpr ⟨List.mem_of_getElem? (i := 950) (by decide +kernel), by decide +kernel⟩
set_option maxRecDepth 100000 in
theorem q_1488 : (.selects RX12 yX12_copy yX12_copy) ∈ lw_all := List.mem_filter.mpr ⟨List.mem_of_getElem? (i := 1488) (by decide +kernel), by decide +kernel⟩
set_option maxHeartbeats 4000000 in
set_option maxRecDepth 100000 in
theorem law_copy {p : Program} {e : Env} {s : State} {m : MethodId} {below : List Frame} {meth : Method} {c : Code} (l : Launch) {b : Nat} {zs : Nat → Int32} (C0 : lw_At p s m meth c b 6 zs) {D : va_G} {cI cQ cM cR : ClassId} (hK : va_K D vwCl (TY cI cQ cM cR) s) {A : Nat → Prop} (hAd : ∀ q : Nat, A q ↔ s.heap.size ≤ q) {x0 nme sme xr xs r0 r1 r2 r3 v0 v1 v2 v3 m0 gweight gpresent gspeeches gbuffer gstate gplace gmover gpart gamended gmany gclause gfirstMany gfirstClause gresolution gmotion gaway gawayMany gawayOrder gtable gcommittee glone gentry gchange gyesBy gnoBy gdraft grow growMany growFloats gsaved : Nat} {H : Heap} {locs : List Loc} (hS : va_S A s.heap H locs) (hP : va_P D vwCl [(x0, .inr (11, [.ref nme, .ref sme, .int 0, .ref xr, .ref xs])), (xr, .inl (cR, 4, .inr (.inr (.inr (.inr (va_up (va_up (va_up (va_up (fun _ => none) 0 (some r0)) 1 (some r1)) 2 (some r2)) 3 (some r3))))))), (r0, .inr (8, [.int 0, .int 0, .ref v0])), (r1, .inr (8, [.int 0, .int 0, .ref v1])), (r2, .inr (8, [.int 0, .int 0, .ref v2])), (r3, .inr (8, [.int 0, .int 0, .ref v3])), (m0, .inr (12, [.ref gweight, .ref gpresent, .ref gspeeches, .int 0, .int 50, .int 0, .int 0, .ref gbuffer, .ref gstate, .ref gplace, .ref gmover, .ref gpart, .ref gamended, .ref gmany, .ref gclause, .ref gfirstMany, .ref gfirstClause, .int 0, .int 0, .int 0, .int (-1), .ref gresolution, .ref gmotion, .ref gaway, .ref gawayMany, .ref gawayOrder, .ref gtable, .ref gcommittee, .int 0, .int 0, .int 0, .int 0, .int 0, .int 0, .int 0, .int 0, .int (-5), .int 0, .int 0, .ref glone, .int 0, .ref gentry, .ref gchange, .int 0, .int (-1), .int 0, .int 0, .ref gyesBy, .ref gnoBy, .int 0, .int 0, .int 0, .int 0, .int 0, .int 0, .ref gdraft, .ref grow, .ref growMany, .ref growFloats, .ref gsaved, .int 0, .int 0, .int 0])), (growMany, .inl (cI, 4, .inl (fun _ => 0)))] H) (hD : va_D A [(x0, .inr (11, [.ref nme, .ref sme, .int 0, .ref xr, .ref xs])), (xr, .inl (cR, 4, .inr (.inr (.inr (.inr (va_up (va_up (va_up (va_up (fun _ => none) 0 (some r0)) 1 (some r1)) 2 (some r2)) 3 (some r3))))))), (r0, .inr (8, [.int 0, .int 0, .ref v0])), (r1, .inr (8, [.int 0, .int 0, .ref v1])), (r2, .inr (8, [.int 0, .int 0, .ref v2])), (r3, .inr (8, [.int 0, .int 0, .ref v3])), (m0, .inr (12, [.ref gweight, .ref gpresent, .ref gspeeches, .int 0, .int 50, .int 0, .int 0, .ref gbuffer, .ref gstate, .ref gplace, .ref gmover, .ref gpart, .ref gamended, .ref gmany, .ref gclause, .ref gfirstMany, .ref gfirstClause, .int 0, .int 0, .int 0, .int (-1), .ref gresolution, .ref gmotion, .ref gaway, .ref gawayMany, .ref gawayOrder, .ref gtable, .ref gcommittee, .int 0, .int 0, .int 0, .int 0, .int 0, .int 0, .int 0, .int 0, .int (-5), .int 0, .int 0, .ref glone, .int 0, .ref gentry, .ref gchange, .int 0, .int (-1), .int 0, .int 0, .ref gyesBy, .ref gnoBy, .int 0, .int 0, .int 0, .int 0, .int 0, .int 0, .ref gdraft, .ref grow, .ref growMany, .ref growFloats, .ref gsaved, .int 0, .int 0, .int 0])), (growMany, .inl (cI, 4, .inl (fun _ => 0)))]) {ls : Array Slot} (hl : lv_has ls 4 [(3, .int 0), (2, .ref m0), (1, .ref x0), (0, .ref b)]) : W p l e room_1 s m #[Value.ref b] below meth c H locs 289 13007 (lw_Z below #[Value.ref b] s) (F0 m 839 ls []) := by
  obtain ⟨hx, hb, hr, hml, hown0, hts0, hX, hbl, hlocks, hgv⟩ := id C0
  have hown : s.vm.findClass RL = some m.cls := hown0
  have hts : ∀ w ∈ lw_all, w.before _ s = true := fun w h => hts0 w (List.mem_filter.mp h).1
  have hA : ∀ q : Nat, s.heap.size ≤ q → A q := fun q h => (hAd q).mpr h
  have hbA : ¬ A b := fun h => absurd ((hAd b).mp h) (Nat.not_le.mpr hbl)
  refine lv_aload_n hx hb dL_law_839 rfl (lv_at hl 2 rfl) ?_
  refine lv_aload_n hx hb dL_law_840 rfl (lv_at hl 3 rfl) ?_
  refine lv_iload_n hx hb dL_law_841 rfl (lv_at hl 0 rfl) ?_
  refine lv_iconst (v := 1) hx hb dL_law_842 (by decide) ?_
  refine lv_iadd hx hb dL_law_843 ?_
  refine lv_cst (v := 1) (by decide) ?_
  refine va_sld hx hb hX hbl hbA hS (i := 1) (by unfold vp_in; decide) dL_law_844 ?_
  refine lv_cst (v := zs 1) rfl ?_
  refine lv_aload_n hx hb dL_law_845 rfl (lv_at hl 3 rfl) ?_
  refine lv_iload_n hx hb dL_law_846 rfl (lv_at hl 0 rfl) ?_
  refine lv_iconst (v := 2) hx hb dL_law_847 (by decide) ?_
  refine lv_iadd hx hb dL_law_848 ?_
  refine lv_cst (v := 2) (by decide) ?_
  refine va_sld hx hb hX hbl hbA hS (i := 2) (by unfold vp_in; decide) dL_law_849 ?_
  refine lv_cst (v := zs 2) rfl ?_
  refine lv_aload_n hx hb dL_law_850 rfl (lv_at hl 3 rfl) ?_
  refine lv_iload_n hx hb dL_law_851 rfl (lv_at hl 0 rfl) ?_
  refine lv_iconst (v := 3) hx hb dL_law_852 (by decide) ?_
  refine lv_iadd hx hb dL_law_853 ?_
  refine lv_cst (v := 3) (by decide) ?_
  refine va_sld hx hb hX hbl hbA hS (i := 3) (by unfold vp_in; decide) dL_law_854 ?_
  refine lv_cst (v := zs 3) rfl ?_
  refine p_call (va_runV (As := [.int (zs 1), .int (zs 2), .int (zs 3)]) (rest := []) ⟨hx, hb, hml, hown, hts⟩ (c_X11_copy l D cI cQ cM cR x0 nme sme xr xs r0 r1 r2 r3 v0 v1 v2 v3 (zs 1) (zs 2) (zs 3)) (cwV 3 hts (gV q_948 q_949 q_950 q_65 q_951) rfl rfl rfl (by decide +kernel) ⟨Nat.le_of_ble_eq_true rfl, Nat.le_of_ble_eq_true rfl⟩) ⟨PP_blind, va_recv hK hP (ci := 11) (q0 := 0) rfl rfl, PP_of hK (hP.sub [0, 1, 2, 3, 4, 5] rfl)⟩ rfl rfl hl.1 rfl (lv_room (Nat.le_of_ble_eq_true rfl)) dL_law_855 ⟨Nat.le_of_ble_eq_true rfl, Nat.le_of_ble_eq_true rfl⟩) ?_
  refine lv_aload_n hx hb dL_law_858 rfl (lv_at hl 1 rfl) ?_
  refine lv_aload_n hx hb dL_law_859 rfl (lv_at hl 3 rfl) ?_
  refine lv_iload_n hx hb dL_law_860 rfl (lv_at hl 0 rfl) ?_
  refine lv_iconst (v := 1) hx hb dL_law_861 (by decide) ?_
  refine lv_iadd hx hb dL_law_862 ?_
  refine lv_cst (v := 1) (by decide) ?_
  refine va_sld hx hb hX hbl hbA hS (i := 1) (by unfold vp_in; decide) dL_law_863 ?_
  refine lv_cst (v := zs 1) rfl ?_
  refine lv_aload_n hx hb dL_law_864 rfl (lv_at hl 3 rfl) ?_
  refine lv_iload_n hx hb dL_law_865 rfl (lv_at hl 0 rfl) ?_
  refine lv_iconst (v := 2) hx hb dL_law_866 (by decide) ?_
  refine lv_iadd hx hb dL_law_867 ?_
  refine lv_cst (v := 2) (by decide) ?_
  refine va_sld hx hb hX hbl hbA hS (i := 2) (by unfold vp_in; decide) dL_law_868 ?_
  refine lv_cst (v := zs 2) rfl ?_
  refine lv_aload_n hx hb dL_law_869 rfl (lv_at hl 3 rfl) ?_
  refine lv_iload_n hx hb dL_law_870 rfl (lv_at hl 0 rfl) ?_
  refine lv_iconst (v := 3) hx hb dL_law_871 (by decide) ?_
  refine lv_iadd hx hb dL_law_872 ?_
  refine lv_cst (v := 3) (by decide) ?_
  refine va_sld hx hb hX hbl hbA hS (i := 3) (by unfold vp_in; decide) dL_law_873 ?_
  refine lv_cst (v := zs 3) rfl ?_
  refine p_call (va_runV (As := [.int (zs 1), .int (zs 2), .int (zs 3)]) (rest := [.int (sp_two (zs 1) (zs 2))]) ⟨hx, hb, hml, hown, hts⟩ (c_X12_copy l D cI cQ cM cR m0 gweight gpresent gspeeches gbuffer gstate gplace gmover gpart gamended gmany gclause gfirstMany gfirstClause gresolution gmotion gaway gawayMany gawayOrder gtable gcommittee glone gentry gchange gyesBy gnoBy gdraft grow growMany growFloats gsaved (zs 1) (zs 2) (zs 3)) (cwV 3 hts (gV q_1486 q_1487 q_1488 q_76 q_1489) rfl rfl rfl (by decide +kernel) ⟨Nat.le_of_ble_eq_true rfl, Nat.le_of_ble_eq_true rfl⟩) ⟨PP_blind, va_recv hK hP (ci := 12) (q0 := 6) rfl rfl, PP_of hK (hP.sub [6, 7] rfl)⟩ rfl rfl hl.1 rfl (lv_room (Nat.le_of_ble_eq_true rfl)) dL_law_874 ⟨Nat.le_of_ble_eq_true rfl, Nat.le_of_ble_eq_true rfl⟩) ?_
  refine lv_icmp_eq (tgt := 975) hx hb dL_law_877 (by decide) (fun _ => ?_) (fun c9 => absurd (rfl) c9)
  exact law_end l C0 hK hAd hS hl
theorem dL_law_882 : decode cL_law 882 = .ok (.aload_n 1, 1) := by decide +kernel
theorem dL_law_883 : decode cL_law 883 = .ok (.aload_n 0, 1) := by decide +kernel
theorem dL_law_884 : decode cL_law 884 = .ok (.iload_n 3, 1) := by decide +kernel
theorem dL_law_885 : decode cL_law 885 = .ok (.iconst 1, 1) := by decide +kernel
theorem dL_law_886 : decode cL_law 886 = .ok (.iadd, 1) := by decide +kernel
theorem dL_law_887 : decode cL_law 887 = .ok (.iaload, 1) := by decide +kernel
theorem dL_law_888 : decode cL_law 888 = .ok (.aload_n 0, 1) := by decide +kernel
theorem dL_law_889 : decode cL_law 889 = .ok (.iload_n 3, 1) := by decide +kernel
theorem dL_law_890 : decode cL_law 890 = .ok (.iconst 2, 1) := by decide +kernel
theorem dL_law_891 : decode cL_law 891 = .ok (.iadd, 1) := by decide +kernel
theorem dL_law_892 : decode cL_law 892 = .ok (.iaload, 1) := by decide +kernel
theorem dL_law_893 : decode cL_law 893 = .ok (.invokevirtual 114, 3) := by decide +kernel
theorem dL_law_896 : decode cL_law 896 = .ok (.aload_n 2, 1) := by decide +kernel
theorem dL_law_897 : decode cL_law 897 = .ok (.aload_n 0, 1) := by decide +kernel
theorem dL_law_898 : decode cL_law 898 = .ok (.iload_n 3, 1) := by decide +kernel
theorem dL_law_899 : decode cL_law 899 = .ok (.iconst 1, 1) := by decide +kernel
theorem dL_law_900 : decode cL_law 900 = .ok (.iadd, 1) := by decide +kernel
theorem dL_law_901 : decode cL_law 901 = .ok (.iaload, 1) := by decide +kernel
theorem dL_law_902 : decode cL_law 902 = .ok (.aload_n 0, 1) := by decide +kernel
theorem dL_law_903 : decode cL_law 903 = .ok (.iload_n 3, 1) := by decide +kernel
theorem dL_law_904 : decode cL_law 904 = .ok (.iconst 2, 1) := by decide +kernel
theorem dL_law_905 : decode cL_law 905 = .ok (.iadd, 1) := by decide +kernel
theorem dL_law_906 : decode cL_law 906 = .ok (.iaload, 1) := by decide +kernel
theorem dL_law_907 : decode cL_law 907 = .ok (.invokevirtual 117, 3) := by decide +kernel
theorem dL_law_910 : decode cL_law 910 = .ok (.if_icmp .eq 65, 3) := by decide +kernel
set_option maxRecDepth 100000 in
theorem q_1493 : (.code yX12_again cX12_again 4 (some .int)) ∈ lw_all := List.mem_filter.mpr ⟨List.mem_of_getElem? (i := 1493) (rfl), by decide +kernel⟩
set_option maxRecDepth 100000 in
theorem q_959 : (.code yX11_again cX11_again 3 (some .int)) ∈ lw_all := List.mem_filter.mpr ⟨List.mem_of_getElem? (i := 959) (rfl), by decide +kernel⟩
set_option maxRecDepth 100000 in
theorem q_1491 : (.instanceMethod yX12_again) ∈ lw_all := List.mem_filter.mpr ⟨List.mem_of_getElem? (i := 1491) (by decide +kernel), by decide +kernel⟩
set_option maxRecDepth 100000 in
theorem q_957 : (.instanceMethod yX11_again) ∈ lw_all := List.mem_filter.mpr ⟨List.mem_of_getElem? (i := 957) (by decide +kernel), by decide +kernel⟩
set_option maxRecDepth 100000 in
theorem q_956 : (.methodLink RL 114 yX11_again) ∈ lw_all := List.mem_filter.mpr ⟨List.mem_of_getElem? (i := 956) (by decide +kernel), by decide +kernel⟩
set_option maxRecDepth 100000 in
theorem q_1490 : (.methodLink RL 117 yX12_again) ∈ lw_all := List.mem_filter.mpr ⟨List.mem_of_getElem? (i := 1490) (by decide +kernel), by decide +kernel⟩
set_option maxRecDepth 100000 in
theorem q_958 : (.selects RX11 yX11_again yX11_again) ∈ lw_all := List.mem_filter.mpr ⟨List.mem_of_getElem? (i := 958) (by decide +kernel), by decide +kernel⟩
set_option maxRecDepth 100000 in
theorem q_1492 : (.selects RX12 yX12_again yX12_again) ∈ lw_all := List.mem_filter.mpr ⟨List.mem_of_getElem? (i := 1492) (by decide +kernel), by decide +kernel⟩
set_option maxHeartbeats 4000000 in
set_option maxRecDepth 100000 in
theorem law_again {p : Program} {e : Env} {s : State} {m : MethodId} {below : List Frame} {meth : Method} {c : Code} (l : Launch) {b : Nat} {zs : Nat → Int32} (C0 : lw_At p s m meth c b 6 zs) {D : va_G} {cI cQ cM cR : ClassId} (hK : va_K D vwCl (TY cI cQ cM cR) s) {A : Nat → Prop} (hAd : ∀ q : Nat, A q ↔ s.heap.size ≤ q) {x0 nme sme xr xs r0 r1 r2 r3 v0 v1 v2 v3 m0 gweight gpresent gspeeches gbuffer gstate gplace gmover gpart gamended gmany gclause gfirstMany gfirstClause gresolution gmotion gaway gawayMany gawayOrder gtable gcommittee glone gentry gchange gyesBy gnoBy gdraft grow growMany growFloats gsaved : Nat} {H : Heap} {locs : List Loc} (hS : va_S A s.heap H locs) (hP : va_P D vwCl [(x0, .inr (11, [.ref nme, .ref sme, .int 0, .ref xr, .ref xs])), (xr, .inl (cR, 4, .inr (.inr (.inr (.inr (va_up (va_up (va_up (va_up (fun _ => none) 0 (some r0)) 1 (some r1)) 2 (some r2)) 3 (some r3))))))), (r0, .inr (8, [.int 0, .int 0, .ref v0])), (r1, .inr (8, [.int 0, .int 0, .ref v1])), (r2, .inr (8, [.int 0, .int 0, .ref v2])), (r3, .inr (8, [.int 0, .int 0, .ref v3])), (m0, .inr (12, [.ref gweight, .ref gpresent, .ref gspeeches, .int 0, .int 50, .int 0, .int 0, .ref gbuffer, .ref gstate, .ref gplace, .ref gmover, .ref gpart, .ref gamended, .ref gmany, .ref gclause, .ref gfirstMany, .ref gfirstClause, .int 0, .int 0, .int 0, .int (-1), .ref gresolution, .ref gmotion, .ref gaway, .ref gawayMany, .ref gawayOrder, .ref gtable, .ref gcommittee, .int 0, .int 0, .int 0, .int 0, .int 0, .int 0, .int 0, .int 0, .int (-5), .int 0, .int 0, .ref glone, .int 0, .ref gentry, .ref gchange, .int 0, .int (-1), .int 0, .int 0, .ref gyesBy, .ref gnoBy, .int 0, .int 0, .int 0, .int 0, .int 0, .int 0, .ref gdraft, .ref grow, .ref growMany, .ref growFloats, .ref gsaved, .int 0, .int 0, .int 0])), (growMany, .inl (cI, 4, .inl (fun _ => 0)))] H) (hD : va_D A [(x0, .inr (11, [.ref nme, .ref sme, .int 0, .ref xr, .ref xs])), (xr, .inl (cR, 4, .inr (.inr (.inr (.inr (va_up (va_up (va_up (va_up (fun _ => none) 0 (some r0)) 1 (some r1)) 2 (some r2)) 3 (some r3))))))), (r0, .inr (8, [.int 0, .int 0, .ref v0])), (r1, .inr (8, [.int 0, .int 0, .ref v1])), (r2, .inr (8, [.int 0, .int 0, .ref v2])), (r3, .inr (8, [.int 0, .int 0, .ref v3])), (m0, .inr (12, [.ref gweight, .ref gpresent, .ref gspeeches, .int 0, .int 50, .int 0, .int 0, .ref gbuffer, .ref gstate, .ref gplace, .ref gmover, .ref gpart, .ref gamended, .ref gmany, .ref gclause, .ref gfirstMany, .ref gfirstClause, .int 0, .int 0, .int 0, .int (-1), .ref gresolution, .ref gmotion, .ref gaway, .ref gawayMany, .ref gawayOrder, .ref gtable, .ref gcommittee, .int 0, .int 0, .int 0, .int 0, .int 0, .int 0, .int 0, .int 0, .int (-5), .int 0, .int 0, .ref glone, .int 0, .ref gentry, .ref gchange, .int 0, .int (-1), .int 0, .int 0, .ref gyesBy, .ref gnoBy, .int 0, .int 0, .int 0, .int 0, .int 0, .int 0, .ref gdraft, .ref grow, .ref growMany, .ref growFloats, .ref gsaved, .int 0, .int 0, .int 0])), (growMany, .inl (cI, 4, .inl (fun _ => 0)))]) {ls : Array Slot} (hl : lv_has ls 4 [(3, .int 0), (2, .ref m0), (1, .ref x0), (0, .ref b)]) : W p l e room_1 s m #[Value.ref b] below meth c H locs 289 13007 (lw_Z below #[Value.ref b] s) (F0 m 882 ls []) := by
  obtain ⟨hx, hb, hr, hml, hown0, hts0, hX, hbl, hlocks, hgv⟩ := id C0
  have hown : s.vm.findClass RL = some m.cls := hown0
  have hts : ∀ w ∈ lw_all, w.before _ s = true := fun w h => hts0 w (List.mem_filter.mp h).1
  have hA : ∀ q : Nat, s.heap.size ≤ q → A q := fun q h => (hAd q).mpr h
  have hbA : ¬ A b := fun h => absurd ((hAd b).mp h) (Nat.not_le.mpr hbl)
  refine lv_aload_n hx hb dL_law_882 rfl (lv_at hl 2 rfl) ?_
  refine lv_aload_n hx hb dL_law_883 rfl (lv_at hl 3 rfl) ?_
  refine lv_iload_n hx hb dL_law_884 rfl (lv_at hl 0 rfl) ?_
  refine lv_iconst (v := 1) hx hb dL_law_885 (by decide) ?_
  refine lv_iadd hx hb dL_law_886 ?_
  refine lv_cst (v := 1) (by decide) ?_
  refine va_sld hx hb hX hbl hbA hS (i := 1) (by unfold vp_in; decide) dL_law_887 ?_
  refine lv_cst (v := zs 1) rfl ?_
  refine lv_aload_n hx hb dL_law_888 rfl (lv_at hl 3 rfl) ?_
  refine lv_iload_n hx hb dL_law_889 rfl (lv_at hl 0 rfl) ?_
  refine lv_iconst (v := 2) hx hb dL_law_890 (by decide) ?_
  refine lv_iadd hx hb dL_law_891 ?_
  refine lv_cst (v := 2) (by decide) ?_
  refine va_sld hx hb hX hbl hbA hS (i := 2) (by unfold vp_in; decide) dL_law_892 ?_
  refine lv_cst (v := zs 2) rfl ?_
  refine p_call (va_runV (As := [.int (zs 1), .int (zs 2)]) (rest := []) ⟨hx, hb, hml, hown, hts⟩ (c_X11_again l D cI cQ cM cR x0 nme sme xr xs r0 r1 r2 r3 v0 v1 v2 v3 (zs 1) (zs 2)) (cwV 2 hts (gV q_956 q_957 q_958 q_65 q_959) rfl rfl rfl (by decide +kernel) ⟨Nat.le_of_ble_eq_true rfl, Nat.le_of_ble_eq_true rfl⟩) ⟨PP_blind, va_recv hK hP (ci := 11) (q0 := 0) rfl rfl, PP_of hK (hP.sub [0, 1, 2, 3, 4, 5] rfl)⟩ rfl rfl hl.1 rfl (lv_room (Nat.le_of_ble_eq_true rfl)) dL_law_893 ⟨Nat.le_of_ble_eq_true rfl, Nat.le_of_ble_eq_true rfl⟩) ?_
  refine lv_aload_n hx hb dL_law_896 rfl (lv_at hl 1 rfl) ?_
  refine lv_aload_n hx hb dL_law_897 rfl (lv_at hl 3 rfl) ?_
  refine lv_iload_n hx hb dL_law_898 rfl (lv_at hl 0 rfl) ?_
  refine lv_iconst (v := 1) hx hb dL_law_899 (by decide) ?_
  refine lv_iadd hx hb dL_law_900 ?_
  refine lv_cst (v := 1) (by decide) ?_
  refine va_sld hx hb hX hbl hbA hS (i := 1) (by unfold vp_in; decide) dL_law_901 ?_
  refine lv_cst (v := zs 1) rfl ?_
  refine lv_aload_n hx hb dL_law_902 rfl (lv_at hl 3 rfl) ?_
  refine lv_iload_n hx hb dL_law_903 rfl (lv_at hl 0 rfl) ?_
  refine lv_iconst (v := 2) hx hb dL_law_904 (by decide) ?_
  refine lv_iadd hx hb dL_law_905 ?_
  refine lv_cst (v := 2) (by decide) ?_
  refine va_sld hx hb hX hbl hbA hS (i := 2) (by unfold vp_in; decide) dL_law_906 ?_
  refine lv_cst (v := zs 2) rfl ?_
  refine p_call (va_runV (As := [.int (zs 1), .int (zs 2)]) (rest := [.int (sp_two (zs 1) (zs 2))]) ⟨hx, hb, hml, hown, hts⟩ (c_X12_again l D cI cQ cM cR m0 gweight gpresent gspeeches gbuffer gstate gplace gmover gpart gamended gmany gclause gfirstMany gfirstClause gresolution gmotion gaway gawayMany gawayOrder gtable gcommittee glone gentry gchange gyesBy gnoBy gdraft grow growMany growFloats gsaved (zs 1) (zs 2)) (cwV 2 hts (gV q_1490 q_1491 q_1492 q_76 q_1493) rfl rfl rfl (by decide +kernel) ⟨Nat.le_of_ble_eq_true rfl, Nat.le_of_ble_eq_true rfl⟩) ⟨PP_blind, va_recv hK hP (ci := 12) (q0 := 6) rfl rfl, PP_of hK (hP.sub [6, 7] rfl)⟩ rfl rfl hl.1 rfl (lv_room (Nat.le_of_ble_eq_true rfl)) dL_law_907 ⟨Nat.le_of_ble_eq_true rfl, Nat.le_of_ble_eq_true rfl⟩) ?_
  refine lv_icmp_eq (tgt := 975) hx hb dL_law_910 (by decide) (fun _ => ?_) (fun c9 => absurd (rfl) c9)
  exact law_end l C0 hK hAd hS hl
theorem dL_law_915 : decode cL_law 915 = .ok (.aload_n 1, 1) := by decide +kernel
theorem dL_law_916 : decode cL_law 916 = .ok (.aload_n 0, 1) := by decide +kernel
theorem dL_law_917 : decode cL_law 917 = .ok (.iload_n 3, 1) := by decide +kernel
theorem dL_law_918 : decode cL_law 918 = .ok (.iconst 1, 1) := by decide +kernel
theorem dL_law_919 : decode cL_law 919 = .ok (.iadd, 1) := by decide +kernel
theorem dL_law_920 : decode cL_law 920 = .ok (.iaload, 1) := by decide +kernel
theorem dL_law_921 : decode cL_law 921 = .ok (.aload_n 0, 1) := by decide +kernel
theorem dL_law_922 : decode cL_law 922 = .ok (.iload_n 3, 1) := by decide +kernel
theorem dL_law_923 : decode cL_law 923 = .ok (.iconst 2, 1) := by decide +kernel
theorem dL_law_924 : decode cL_law 924 = .ok (.iadd, 1) := by decide +kernel
theorem dL_law_925 : decode cL_law 925 = .ok (.iaload, 1) := by decide +kernel
theorem dL_law_926 : decode cL_law 926 = .ok (.invokevirtual 118, 3) := by decide +kernel
theorem dL_law_929 : decode cL_law 929 = .ok (.aload_n 2, 1) := by decide +kernel
theorem dL_law_930 : decode cL_law 930 = .ok (.aload_n 0, 1) := by decide +kernel
theorem dL_law_931 : decode cL_law 931 = .ok (.iload_n 3, 1) := by decide +kernel
theorem dL_law_932 : decode cL_law 932 = .ok (.iconst 1, 1) := by decide +kernel
theorem dL_law_933 : decode cL_law 933 = .ok (.iadd, 1) := by decide +kernel
theorem dL_law_934 : decode cL_law 934 = .ok (.iaload, 1) := by decide +kernel
theorem dL_law_935 : decode cL_law 935 = .ok (.aload_n 0, 1) := by decide +kernel
theorem dL_law_936 : decode cL_law 936 = .ok (.iload_n 3, 1) := by decide +kernel
theorem dL_law_937 : decode cL_law 937 = .ok (.iconst 2, 1) := by decide +kernel
theorem dL_law_938 : decode cL_law 938 = .ok (.iadd, 1) := by decide +kernel
theorem dL_law_939 : decode cL_law 939 = .ok (.iaload, 1) := by decide +kernel
theorem dL_law_940 : decode cL_law 940 = .ok (.invokevirtual 122, 3) := by decide +kernel
theorem dL_law_943 : decode cL_law 943 = .ok (.lcmp, 1) := by decide +kernel
theorem dL_law_944 : decode cL_law 944 = .ok (.ifCond .eq 31, 3) := by decide +kernel
set_option maxRecDepth 100000 in
theorem q_1497 : (.code yX12_element cX12_element 3 (some .long)) ∈ lw_all := List.mem_filter.mpr ⟨List.mem_of_getElem? (i := 1497) (rfl), by decide +kernel⟩
set_option maxRecDepth 100000 in
theorem q_968 : (.code yX11_element cX11_element 3 (some .long)) ∈ lw_all := List.mem_filter.mpr ⟨List.mem_of_getElem? (i := 968) (rfl), by decide +kernel⟩
set_option maxRecDepth 100000 in
theorem q_1495 : (.instanceMethod yX12_element) ∈ lw_all := List.mem_filter.mpr ⟨List.mem_of_getElem? (i := 1495) (by decide +kernel), by decide +kernel⟩
set_option maxRecDepth 100000 in
theorem q_966 : (.instanceMethod yX11_element) ∈ lw_all := List.mem_filter.mpr ⟨List.mem_of_getElem? (i := 966) (by decide +kernel), by decide +kernel⟩
set_option maxRecDepth 100000 in
theorem q_965 : (.methodLink RL 118 yX11_element) ∈ lw_all := List.mem_filter.mpr ⟨List.mem_of_getElem? (i := 965) (by decide +kernel), by decide +kernel⟩
set_option maxRecDepth 100000 in
theorem q_1494 : (.methodLink RL 122 yX12_element) ∈ lw_all := List.mem_filter.mpr ⟨List.mem_of_getElem? (i := 1494) (by decide +kernel), by decide +kernel⟩
set_option maxRecDepth 100000 in
theorem q_967 : (.selects RX11 yX11_element yX11_element) ∈ lw_all := List.mem_filter.mpr ⟨List.mem_of_getElem? (i := 967) (by decide +kernel), by decide +kernel⟩
set_option maxRecDepth 100000 in
theorem q_1496 : (.selects RX12 yX12_element yX12_element) ∈ lw_all := List.mem_filter.mpr ⟨List.mem_of_getElem? (i := 1496) (by decide +kernel), by decide +kernel⟩
set_option maxHeartbeats 4000000 in
set_option maxRecDepth 100000 in
theorem law_element {p : Program} {e : Env} {s : State} {m : MethodId} {below : List Frame} {meth : Method} {c : Code} (l : Launch) {b : Nat} {zs : Nat → Int32} (C0 : lw_At p s m meth c b 6 zs) {D : va_G} {cI cQ cM cR : ClassId} (hK : va_K D vwCl (TY cI cQ cM cR) s) {A : Nat → Prop} (hAd : ∀ q : Nat, A q ↔ s.heap.size ≤ q) {x0 nme sme xr xs r0 r1 r2 r3 v0 v1 v2 v3 m0 gweight gpresent gspeeches gbuffer gstate gplace gmover gpart gamended gmany gclause gfirstMany gfirstClause gresolution gmotion gaway gawayMany gawayOrder gtable gcommittee glone gentry gchange gyesBy gnoBy gdraft grow growMany growFloats gsaved : Nat} {H : Heap} {locs : List Loc} (hS : va_S A s.heap H locs) (hP : va_P D vwCl [(x0, .inr (11, [.ref nme, .ref sme, .int 0, .ref xr, .ref xs])), (xr, .inl (cR, 4, .inr (.inr (.inr (.inr (va_up (va_up (va_up (va_up (fun _ => none) 0 (some r0)) 1 (some r1)) 2 (some r2)) 3 (some r3))))))), (r0, .inr (8, [.int 0, .int 0, .ref v0])), (r1, .inr (8, [.int 0, .int 0, .ref v1])), (r2, .inr (8, [.int 0, .int 0, .ref v2])), (r3, .inr (8, [.int 0, .int 0, .ref v3])), (m0, .inr (12, [.ref gweight, .ref gpresent, .ref gspeeches, .int 0, .int 50, .int 0, .int 0, .ref gbuffer, .ref gstate, .ref gplace, .ref gmover, .ref gpart, .ref gamended, .ref gmany, .ref gclause, .ref gfirstMany, .ref gfirstClause, .int 0, .int 0, .int 0, .int (-1), .ref gresolution, .ref gmotion, .ref gaway, .ref gawayMany, .ref gawayOrder, .ref gtable, .ref gcommittee, .int 0, .int 0, .int 0, .int 0, .int 0, .int 0, .int 0, .int 0, .int (-5), .int 0, .int 0, .ref glone, .int 0, .ref gentry, .ref gchange, .int 0, .int (-1), .int 0, .int 0, .ref gyesBy, .ref gnoBy, .int 0, .int 0, .int 0, .int 0, .int 0, .int 0, .ref gdraft, .ref grow, .ref growMany, .ref growFloats, .ref gsaved, .int 0, .int 0, .int 0])), (growMany, .inl (cI, 4, .inl (fun _ => 0)))] H) (hD : va_D A [(x0, .inr (11, [.ref nme, .ref sme, .int 0, .ref xr, .ref xs])), (xr, .inl (cR, 4, .inr (.inr (.inr (.inr (va_up (va_up (va_up (va_up (fun _ => none) 0 (some r0)) 1 (some r1)) 2 (some r2)) 3 (some r3))))))), (r0, .inr (8, [.int 0, .int 0, .ref v0])), (r1, .inr (8, [.int 0, .int 0, .ref v1])), (r2, .inr (8, [.int 0, .int 0, .ref v2])), (r3, .inr (8, [.int 0, .int 0, .ref v3])), (m0, .inr (12, [.ref gweight, .ref gpresent, .ref gspeeches, .int 0, .int 50, .int 0, .int 0, .ref gbuffer, .ref gstate, .ref gplace, .ref gmover, .ref gpart, .ref gamended, .ref gmany, .ref gclause, .ref gfirstMany, .ref gfirstClause, .int 0, .int 0, .int 0, .int (-1), .ref gresolution, .ref gmotion, .ref gaway, .ref gawayMany, .ref gawayOrder, .ref gtable, .ref gcommittee, .int 0, .int 0, .int 0, .int 0, .int 0, .int 0, .int 0, .int 0, .int (-5), .int 0, .int 0, .ref glone, .int 0, .ref gentry, .ref gchange, .int 0, .int (-1), .int 0, .int 0, .ref gyesBy, .ref gnoBy, .int 0, .int 0, .int 0, .int 0, .int 0, .int 0, .ref gdraft, .ref grow, .ref growMany, .ref growFloats, .ref gsaved, .int 0, .int 0, .int 0])), (growMany, .inl (cI, 4, .inl (fun _ => 0)))]) {ls : Array Slot} (hl : lv_has ls 4 [(3, .int 0), (2, .ref m0), (1, .ref x0), (0, .ref b)]) : W p l e room_1 s m #[Value.ref b] below meth c H locs 289 13007 (lw_Z below #[Value.ref b] s) (F0 m 915 ls []) := by
  obtain ⟨hx, hb, hr, hml, hown0, hts0, hX, hbl, hlocks, hgv⟩ := id C0
  have hown : s.vm.findClass RL = some m.cls := hown0
  have hts : ∀ w ∈ lw_all, w.before _ s = true := fun w h => hts0 w (List.mem_filter.mp h).1
  have hA : ∀ q : Nat, s.heap.size ≤ q → A q := fun q h => (hAd q).mpr h
  have hbA : ¬ A b := fun h => absurd ((hAd b).mp h) (Nat.not_le.mpr hbl)
  refine lv_aload_n hx hb dL_law_915 rfl (lv_at hl 2 rfl) ?_
  refine lv_aload_n hx hb dL_law_916 rfl (lv_at hl 3 rfl) ?_
  refine lv_iload_n hx hb dL_law_917 rfl (lv_at hl 0 rfl) ?_
  refine lv_iconst (v := 1) hx hb dL_law_918 (by decide) ?_
  refine lv_iadd hx hb dL_law_919 ?_
  refine lv_cst (v := 1) (by decide) ?_
  refine va_sld hx hb hX hbl hbA hS (i := 1) (by unfold vp_in; decide) dL_law_920 ?_
  refine lv_cst (v := zs 1) rfl ?_
  refine lv_aload_n hx hb dL_law_921 rfl (lv_at hl 3 rfl) ?_
  refine lv_iload_n hx hb dL_law_922 rfl (lv_at hl 0 rfl) ?_
  refine lv_iconst (v := 2) hx hb dL_law_923 (by decide) ?_
  refine lv_iadd hx hb dL_law_924 ?_
  refine lv_cst (v := 2) (by decide) ?_
  refine va_sld hx hb hX hbl hbA hS (i := 2) (by unfold vp_in; decide) dL_law_925 ?_
  refine lv_cst (v := zs 2) rfl ?_
  refine p_call (va_runV (As := [.int (zs 1), .int (zs 2)]) (rest := []) ⟨hx, hb, hml, hown, hts⟩ (c_X11_element l D cI cQ cM cR x0 nme sme xr xs r0 r1 r2 r3 v0 v1 v2 v3 (zs 1) (zs 2)) (cwV 2 hts (gV q_965 q_966 q_967 q_65 q_968) rfl rfl rfl (by decide +kernel) ⟨Nat.le_of_ble_eq_true rfl, Nat.le_of_ble_eq_true rfl⟩) ⟨PP_blind, va_recv hK hP (ci := 11) (q0 := 0) rfl rfl, PP_of hK (hP.sub [0, 1, 2, 3, 4, 5] rfl)⟩ rfl rfl hl.1 rfl (lv_room (Nat.le_of_ble_eq_true rfl)) dL_law_926 ⟨Nat.le_of_ble_eq_true rfl, Nat.le_of_ble_eq_true rfl⟩) ?_
  refine lv_aload_n hx hb dL_law_929 rfl (lv_at hl 1 rfl) ?_
  refine lv_aload_n hx hb dL_law_930 rfl (lv_at hl 3 rfl) ?_
  refine lv_iload_n hx hb dL_law_931 rfl (lv_at hl 0 rfl) ?_
  refine lv_iconst (v := 1) hx hb dL_law_932 (by decide) ?_
  refine lv_iadd hx hb dL_law_933 ?_
  refine lv_cst (v := 1) (by decide) ?_
  refine va_sld hx hb hX hbl hbA hS (i := 1) (by unfold vp_in; decide) dL_law_934 ?_
  refine lv_cst (v := zs 1) rfl ?_
  refine lv_aload_n hx hb dL_law_935 rfl (lv_at hl 3 rfl) ?_
  refine lv_iload_n hx hb dL_law_936 rfl (lv_at hl 0 rfl) ?_
  refine lv_iconst (v := 2) hx hb dL_law_937 (by decide) ?_
  refine lv_iadd hx hb dL_law_938 ?_
  refine lv_cst (v := 2) (by decide) ?_
  refine va_sld hx hb hX hbl hbA hS (i := 2) (by unfold vp_in; decide) dL_law_939 ?_
  refine lv_cst (v := zs 2) rfl ?_
  refine p_call (va_runV (As := [.int (zs 1), .int (zs 2)]) (rest := [.long (-9223372036854775808)]) ⟨hx, hb, hml, hown, hts⟩ (c_X12_element l D cI cQ cM cR m0 gweight gpresent gspeeches gbuffer gstate gplace gmover gpart gamended gmany gclause gfirstMany gfirstClause gresolution gmotion gaway gawayMany gawayOrder gtable gcommittee glone gentry gchange gyesBy gnoBy gdraft grow growMany growFloats gsaved (zs 1) (zs 2)) (cwV 2 hts (gV q_1494 q_1495 q_1496 q_76 q_1497) rfl rfl rfl (by decide +kernel) ⟨Nat.le_of_ble_eq_true rfl, Nat.le_of_ble_eq_true rfl⟩) ⟨PP_blind, va_recv hK hP (ci := 12) (q0 := 6) rfl rfl, PP_of hK (hP.sub [6, 7] rfl)⟩ rfl rfl hl.1 rfl (lv_room (Nat.le_of_ble_eq_true rfl)) dL_law_940 ⟨Nat.le_of_ble_eq_true rfl, Nat.le_of_ble_eq_true rfl⟩) ?_
  refine W.lcmp hx hb dL_law_943 ?_
  refine lv_cst (v := 0) (by decide) ?_
  refine lv_if_eq (tgt := 975) hx hb dL_law_944 (by decide) (fun _ => ?_) (fun c9 => absurd (by decide) c9)
  exact law_end l C0 hK hAd hS hl
theorem dL_law_949 : decode cL_law 949 = .ok (.aload_n 1, 1) := by decide +kernel
theorem dL_law_950 : decode cL_law 950 = .ok (.invokevirtual 123, 3) := by decide +kernel
theorem dL_law_953 : decode cL_law 953 = .ok (.aload_n 2, 1) := by decide +kernel
theorem dL_law_954 : decode cL_law 954 = .ok (.invokevirtual 126, 3) := by decide +kernel
theorem dL_law_957 : decode cL_law 957 = .ok (.if_icmp .eq 18, 3) := by decide +kernel
set_option maxRecDepth 100000 in
theorem q_1502 : (.code yX12_image cX12_image 1 (some .int)) ∈ lw_all := List.mem_filter.mpr ⟨List.mem_of_getElem? (i := 1502) (rfl), by decide +kernel⟩
set_option maxRecDepth 100000 in
theorem q_973 : (.code yX11_image cX11_image 1 (some .int)) ∈ lw_all := List.mem_filter.mpr ⟨List.mem_of_getElem? (i := 973) (rfl), by decide +kernel⟩
set_option maxRecDepth 100000 in
theorem q_1500 : (.instanceMethod yX12_image) ∈ lw_all := List.mem_filter.mpr ⟨List.mem_of_getElem? (i := 1500) (by decide +kernel), by decide +kernel⟩
set_option maxRecDepth 100000 in
theorem q_971 : (.instanceMethod yX11_image) ∈ lw_all := List.mem_filter.mpr ⟨List.mem_of_getElem? (i := 971) (by decide +kernel), by decide +kernel⟩
set_option maxRecDepth 100000 in
theorem q_970 : (.methodLink RL 123 yX11_image) ∈ lw_all := List.mem_filter.mpr ⟨List.mem_of_getElem? (i := 970) (by decide +kernel), by decide +kernel⟩
set_option maxRecDepth 100000 in
theorem q_1499 : (.methodLink RL 126 yX12_image) ∈ lw_all := List.mem_filter.mpr ⟨List.mem_of_getElem? (i := 1499) (by decide +kernel), by decide +kernel⟩
set_option maxRecDepth 100000 in
theorem q_972 : (.selects RX11 yX11_image yX11_image) ∈ lw_all := List.mem_filter.mpr ⟨List.mem_of_getElem? (i := 972) (by decide +kernel), by decide +kernel⟩
set_option maxRecDepth 100000 in
theorem q_1501 : (.selects RX12 yX12_image yX12_image) ∈ lw_all := List.mem_filter.mpr ⟨List.mem_of_getElem? (i := 1501) (by decide +kernel), by decide +kernel⟩
set_option maxHeartbeats 4000000 in
set_option maxRecDepth 100000 in
theorem law_image {p : Program} {e : Env} {s : State} {m : MethodId} {below : List Frame} {meth : Method} {c : Code} (l : Launch) {b : Nat} {zs : Nat → Int32} (C0 : lw_At p s m meth c b 6 zs) {D : va_G} {cI cQ cM cR : ClassId} (hK : va_K D vwCl (TY cI cQ cM cR) s) {A : Nat → Prop} (hAd : ∀ q : Nat, A q ↔ s.heap.size ≤ q) {x0 nme sme xr xs sho sdk ssh smi sba sde sbu shw shs sdq sdr sst sss ssp sma smb smc smd smm sby sbn sbc nho ndk nsh nmi nba nde nbu nhw nhs ndq ndr nst nss nsp nma nmb nmc nmd nmm nby nbn nbc m0 gweight gpresent gspeeches gbuffer gstate gplace gmover gpart gamended gmany gclause gfirstMany gfirstClause gresolution gmotion gaway gawayMany gawayOrder gtable gcommittee glone gentry gchange gyesBy gnoBy gdraft grow growMany growFloats gsaved : Nat} {sQ nQ : Nat → QB} {H : Heap} {locs : List Loc} (hS : va_S A s.heap H locs) (hP : va_P D vwCl ([(x0, .inr (11, [.ref nme, .ref sme, .int 0, .ref xr, .ref xs])), (sme, .inr (4, [.ref sho, .ref sdk, .ref ssh, .ref smi, .ref sba, .ref sde, .ref sbu, .int 1, .int 0, .null, .int 0, .int 0, .int 0])), (sho, .inr (3, [.int 0, .int 50, .int 0, .ref shw, .ref shs])), (shw, .inl (cI, 12, .inl (fun _ => 0))), (shs, .inl (cI, 12, .inl (fun _ => 0))), (sdk, .inr (2, [.int 0, .int 0, .ref sdq, .ref sdr])), (sdq, .inl (cQ, 20, .inr (.inr (.inr (.inr (qf sQ 20)))))), (sdr, .inl (cI, 20, .inl (fun _ => 0))), (ssh, .inr (9, [.int 0, .ref sst, .ref sss, .ref ssp])), (sst, .inl (cM, 160, .inr (.inr (.inr (.inr (fun _ => none)))))), (sss, .inl (cI, 160, .inl (fun _ => 0))), (ssp, .inl (cI, 160, .inl (fun _ => 0))), (smi, .inr (5, [.int 0, .int 0, .ref sma, .ref smb, .ref smc, .ref smd, .ref smm])), (sma, .inl (cI, 120, .inl (fun _ => 0))), (smb, .inl (cI, 120, .inl (fun _ => 0))), (smc, .inl (cI, 120, .inl (fun _ => 0))), (smd, .inl (cI, 120, .inl (fun _ => 0))), (smm, .inl (cM, 120, .inr (.inr (.inr (.inr (fun _ => none)))))), (sba, .inr (0, [.int 0, .int 0, .int 0, .ref sby, .ref sbn, .int 0, .int 0, .int 0, .int 0, .int 0, .int 99, .int 0, .int 0])), (sby, .inl (cI, 40, .inl (fun _ => 0))), (sbn, .inl (cI, 40, .inl (fun _ => 0))), (sde, .inr (1, [.int (-5), .int 0, .int 0])), (sbu, .inr (10, [.int 0, .ref sbc])), (sbc, .inl (cI, 8, .inl (fun _ => 0))), (nme, .inr (4, [.ref nho, .ref ndk, .ref nsh, .ref nmi, .ref nba, .ref nde, .ref nbu, .int 1, .int 0, .null, .int 0, .int 0, .int 0])), (nho, .inr (3, [.int 0, .int 50, .int 0, .ref nhw, .ref nhs])), (nhw, .inl (cI, 12, .inl (fun _ => 0))), (nhs, .inl (cI, 12, .inl (fun _ => 0))), (ndk, .inr (2, [.int 0, .int 0, .ref ndq, .ref ndr])), (ndq, .inl (cQ, 20, .inr (.inr (.inr (.inr (qf nQ 20)))))), (ndr, .inl (cI, 20, .inl (fun _ => 0))), (nsh, .inr (9, [.int 0, .ref nst, .ref nss, .ref nsp])), (nst, .inl (cM, 160, .inr (.inr (.inr (.inr (fun _ => none)))))), (nss, .inl (cI, 160, .inl (fun _ => 0))), (nsp, .inl (cI, 160, .inl (fun _ => 0))), (nmi, .inr (5, [.int 0, .int 0, .ref nma, .ref nmb, .ref nmc, .ref nmd, .ref nmm])), (nma, .inl (cI, 120, .inl (fun _ => 0))), (nmb, .inl (cI, 120, .inl (fun _ => 0))), (nmc, .inl (cI, 120, .inl (fun _ => 0))), (nmd, .inl (cI, 120, .inl (fun _ => 0))), (nmm, .inl (cM, 120, .inr (.inr (.inr (.inr (fun _ => none)))))), (nba, .inr (0, [.int 0, .int 0, .int 0, .ref nby, .ref nbn, .int 0, .int 0, .int 0, .int 0, .int 0, .int 99, .int 0, .int 0])), (nby, .inl (cI, 40, .inl (fun _ => 0))), (nbn, .inl (cI, 40, .inl (fun _ => 0))), (nde, .inr (1, [.int (-5), .int 0, .int 0])), (nbu, .inr (10, [.int 0, .ref nbc])), (nbc, .inl (cI, 8, .inl (fun _ => 0))), (m0, .inr (12, [.ref gweight, .ref gpresent, .ref gspeeches, .int 0, .int 50, .int 0, .int 0, .ref gbuffer, .ref gstate, .ref gplace, .ref gmover, .ref gpart, .ref gamended, .ref gmany, .ref gclause, .ref gfirstMany, .ref gfirstClause, .int 0, .int 0, .int 0, .int (-1), .ref gresolution, .ref gmotion, .ref gaway, .ref gawayMany, .ref gawayOrder, .ref gtable, .ref gcommittee, .int 0, .int 0, .int 0, .int 0, .int 0, .int 0, .int 0, .int 0, .int (-5), .int 0, .int 0, .ref glone, .int 0, .ref gentry, .ref gchange, .int 0, .int (-1), .int 0, .int 0, .ref gyesBy, .ref gnoBy, .int 0, .int 0, .int 0, .int 0, .int 0, .int 0, .ref gdraft, .ref grow, .ref growMany, .ref growFloats, .ref gsaved, .int 0, .int 0, .int 0])), (gsaved, .inl (cI, 5000, .inl (fun _ => 0))), (gweight, .inl (cI, 12, .inl (fun _ => 0))), (gpresent, .inl (cI, 12, .inl (fun _ => 0))), (gspeeches, .inl (cI, 12, .inl (fun _ => 0))), (gbuffer, .inl (cI, 8, .inl (fun _ => 0))), (gstate, .inl (cI, 20, .inl (fun _ => 0))), (gplace, .inl (cI, 20, .inl (fun _ => 0))), (gmover, .inl (cI, 20, .inl (fun _ => 0))), (gpart, .inl (cI, 20, .inl (fun _ => 0))), (gamended, .inl (cI, 20, .inl (fun _ => 0))), (gmany, .inl (cI, 20, .inl (fun _ => 0))), (gclause, .inl (cI, 160, .inl (fun _ => 0))), (gfirstMany, .inl (cI, 20, .inl (fun _ => 0))), (gfirstClause, .inl (cI, 160, .inl (fun _ => 0))), (gresolution, .inl (cI, 40, .inl (fun _ => 0))), (gmotion, .inl (cI, 60, .inl (fun _ => 0))), (gaway, .inl (cI, 1200, .inl (fun _ => 0))), (gawayMany, .inl (cI, 20, .inl (fun _ => 0))), (gawayOrder, .inl (cI, 20, .inl (fun _ => 0))), (glone, .inl (cI, 1040, .inl (fun _ => 0))), (gtable, .inl (cI, 3, .inl (fun _ => 0))), (gcommittee, .inl (cI, 4, .inl (upd (upd (upd (upd (fun _ => 0) 0 (-1)) 1 (-1)) 2 (-1)) 3 (-1)))), (gentry, .inl (cI, 480, .inl (fun _ => 0))), (gchange, .inl (cI, 480, .inl (fun _ => 0))), (gyesBy, .inl (cI, 40, .inl (fun _ => 0))), (gnoBy, .inl (cI, 40, .inl (fun _ => 0)))] ++ ((qsW cI sQ 20) ++ (qsW cI nQ 20))) H) (hD : va_D A ([(x0, .inr (11, [.ref nme, .ref sme, .int 0, .ref xr, .ref xs])), (sme, .inr (4, [.ref sho, .ref sdk, .ref ssh, .ref smi, .ref sba, .ref sde, .ref sbu, .int 1, .int 0, .null, .int 0, .int 0, .int 0])), (sho, .inr (3, [.int 0, .int 50, .int 0, .ref shw, .ref shs])), (shw, .inl (cI, 12, .inl (fun _ => 0))), (shs, .inl (cI, 12, .inl (fun _ => 0))), (sdk, .inr (2, [.int 0, .int 0, .ref sdq, .ref sdr])), (sdq, .inl (cQ, 20, .inr (.inr (.inr (.inr (qf sQ 20)))))), (sdr, .inl (cI, 20, .inl (fun _ => 0))), (ssh, .inr (9, [.int 0, .ref sst, .ref sss, .ref ssp])), (sst, .inl (cM, 160, .inr (.inr (.inr (.inr (fun _ => none)))))), (sss, .inl (cI, 160, .inl (fun _ => 0))), (ssp, .inl (cI, 160, .inl (fun _ => 0))), (smi, .inr (5, [.int 0, .int 0, .ref sma, .ref smb, .ref smc, .ref smd, .ref smm])), (sma, .inl (cI, 120, .inl (fun _ => 0))), (smb, .inl (cI, 120, .inl (fun _ => 0))), (smc, .inl (cI, 120, .inl (fun _ => 0))), (smd, .inl (cI, 120, .inl (fun _ => 0))), (smm, .inl (cM, 120, .inr (.inr (.inr (.inr (fun _ => none)))))), (sba, .inr (0, [.int 0, .int 0, .int 0, .ref sby, .ref sbn, .int 0, .int 0, .int 0, .int 0, .int 0, .int 99, .int 0, .int 0])), (sby, .inl (cI, 40, .inl (fun _ => 0))), (sbn, .inl (cI, 40, .inl (fun _ => 0))), (sde, .inr (1, [.int (-5), .int 0, .int 0])), (sbu, .inr (10, [.int 0, .ref sbc])), (sbc, .inl (cI, 8, .inl (fun _ => 0))), (nme, .inr (4, [.ref nho, .ref ndk, .ref nsh, .ref nmi, .ref nba, .ref nde, .ref nbu, .int 1, .int 0, .null, .int 0, .int 0, .int 0])), (nho, .inr (3, [.int 0, .int 50, .int 0, .ref nhw, .ref nhs])), (nhw, .inl (cI, 12, .inl (fun _ => 0))), (nhs, .inl (cI, 12, .inl (fun _ => 0))), (ndk, .inr (2, [.int 0, .int 0, .ref ndq, .ref ndr])), (ndq, .inl (cQ, 20, .inr (.inr (.inr (.inr (qf nQ 20)))))), (ndr, .inl (cI, 20, .inl (fun _ => 0))), (nsh, .inr (9, [.int 0, .ref nst, .ref nss, .ref nsp])), (nst, .inl (cM, 160, .inr (.inr (.inr (.inr (fun _ => none)))))), (nss, .inl (cI, 160, .inl (fun _ => 0))), (nsp, .inl (cI, 160, .inl (fun _ => 0))), (nmi, .inr (5, [.int 0, .int 0, .ref nma, .ref nmb, .ref nmc, .ref nmd, .ref nmm])), (nma, .inl (cI, 120, .inl (fun _ => 0))), (nmb, .inl (cI, 120, .inl (fun _ => 0))), (nmc, .inl (cI, 120, .inl (fun _ => 0))), (nmd, .inl (cI, 120, .inl (fun _ => 0))), (nmm, .inl (cM, 120, .inr (.inr (.inr (.inr (fun _ => none)))))), (nba, .inr (0, [.int 0, .int 0, .int 0, .ref nby, .ref nbn, .int 0, .int 0, .int 0, .int 0, .int 0, .int 99, .int 0, .int 0])), (nby, .inl (cI, 40, .inl (fun _ => 0))), (nbn, .inl (cI, 40, .inl (fun _ => 0))), (nde, .inr (1, [.int (-5), .int 0, .int 0])), (nbu, .inr (10, [.int 0, .ref nbc])), (nbc, .inl (cI, 8, .inl (fun _ => 0))), (m0, .inr (12, [.ref gweight, .ref gpresent, .ref gspeeches, .int 0, .int 50, .int 0, .int 0, .ref gbuffer, .ref gstate, .ref gplace, .ref gmover, .ref gpart, .ref gamended, .ref gmany, .ref gclause, .ref gfirstMany, .ref gfirstClause, .int 0, .int 0, .int 0, .int (-1), .ref gresolution, .ref gmotion, .ref gaway, .ref gawayMany, .ref gawayOrder, .ref gtable, .ref gcommittee, .int 0, .int 0, .int 0, .int 0, .int 0, .int 0, .int 0, .int 0, .int (-5), .int 0, .int 0, .ref glone, .int 0, .ref gentry, .ref gchange, .int 0, .int (-1), .int 0, .int 0, .ref gyesBy, .ref gnoBy, .int 0, .int 0, .int 0, .int 0, .int 0, .int 0, .ref gdraft, .ref grow, .ref growMany, .ref growFloats, .ref gsaved, .int 0, .int 0, .int 0])), (gsaved, .inl (cI, 5000, .inl (fun _ => 0))), (gweight, .inl (cI, 12, .inl (fun _ => 0))), (gpresent, .inl (cI, 12, .inl (fun _ => 0))), (gspeeches, .inl (cI, 12, .inl (fun _ => 0))), (gbuffer, .inl (cI, 8, .inl (fun _ => 0))), (gstate, .inl (cI, 20, .inl (fun _ => 0))), (gplace, .inl (cI, 20, .inl (fun _ => 0))), (gmover, .inl (cI, 20, .inl (fun _ => 0))), (gpart, .inl (cI, 20, .inl (fun _ => 0))), (gamended, .inl (cI, 20, .inl (fun _ => 0))), (gmany, .inl (cI, 20, .inl (fun _ => 0))), (gclause, .inl (cI, 160, .inl (fun _ => 0))), (gfirstMany, .inl (cI, 20, .inl (fun _ => 0))), (gfirstClause, .inl (cI, 160, .inl (fun _ => 0))), (gresolution, .inl (cI, 40, .inl (fun _ => 0))), (gmotion, .inl (cI, 60, .inl (fun _ => 0))), (gaway, .inl (cI, 1200, .inl (fun _ => 0))), (gawayMany, .inl (cI, 20, .inl (fun _ => 0))), (gawayOrder, .inl (cI, 20, .inl (fun _ => 0))), (glone, .inl (cI, 1040, .inl (fun _ => 0))), (gtable, .inl (cI, 3, .inl (fun _ => 0))), (gcommittee, .inl (cI, 4, .inl (upd (upd (upd (upd (fun _ => 0) 0 (-1)) 1 (-1)) 2 (-1)) 3 (-1)))), (gentry, .inl (cI, 480, .inl (fun _ => 0))), (gchange, .inl (cI, 480, .inl (fun _ => 0))), (gyesBy, .inl (cI, 40, .inl (fun _ => 0))), (gnoBy, .inl (cI, 40, .inl (fun _ => 0)))] ++ ((qsW cI sQ 20) ++ (qsW cI nQ 20)))) {ls : Array Slot} (hl : lv_has ls 4 [(3, .int 0), (2, .ref m0), (1, .ref x0), (0, .ref b)]) : W p l e room_1 s m #[Value.ref b] below meth c H locs 289 13007 (lw_Z below #[Value.ref b] s) (F0 m 949 ls []) := by
  obtain ⟨hx, hb, hr, hml, hown0, hts0, hX, hbl, hlocks, hgv⟩ := id C0
  have hown : s.vm.findClass RL = some m.cls := hown0
  have hts : ∀ w ∈ lw_all, w.before _ s = true := fun w h => hts0 w (List.mem_filter.mp h).1
  have hA : ∀ q : Nat, s.heap.size ≤ q → A q := fun q h => (hAd q).mpr h
  have hbA : ¬ A b := fun h => absurd ((hAd b).mp h) (Nat.not_le.mpr hbl)
  refine lv_aload_n hx hb dL_law_949 rfl (lv_at hl 2 rfl) ?_
  have hFc := va_freeP (X := [(x0, .inr (11, [.ref nme, .ref sme, .int 0, .ref xr, .ref xs])), (sme, .inr (4, [.ref sho, .ref sdk, .ref ssh, .ref smi, .ref sba, .ref sde, .ref sbu, .int 1, .int 0, .null, .int 0, .int 0, .int 0])), (sho, .inr (3, [.int 0, .int 50, .int 0, .ref shw, .ref shs])), (shw, .inl (cI, 12, .inl (fun _ => 0))), (shs, .inl (cI, 12, .inl (fun _ => 0))), (sdk, .inr (2, [.int 0, .int 0, .ref sdq, .ref sdr])), (sdq, .inl (cQ, 20, .inr (.inr (.inr (.inr (qf sQ 20)))))), (sdr, .inl (cI, 20, .inl (fun _ => 0))), (ssh, .inr (9, [.int 0, .ref sst, .ref sss, .ref ssp])), (sst, .inl (cM, 160, .inr (.inr (.inr (.inr (fun _ => none)))))), (sss, .inl (cI, 160, .inl (fun _ => 0))), (ssp, .inl (cI, 160, .inl (fun _ => 0))), (smi, .inr (5, [.int 0, .int 0, .ref sma, .ref smb, .ref smc, .ref smd, .ref smm])), (sma, .inl (cI, 120, .inl (fun _ => 0))), (smb, .inl (cI, 120, .inl (fun _ => 0))), (smc, .inl (cI, 120, .inl (fun _ => 0))), (smd, .inl (cI, 120, .inl (fun _ => 0))), (smm, .inl (cM, 120, .inr (.inr (.inr (.inr (fun _ => none)))))), (sba, .inr (0, [.int 0, .int 0, .int 0, .ref sby, .ref sbn, .int 0, .int 0, .int 0, .int 0, .int 0, .int 99, .int 0, .int 0])), (sby, .inl (cI, 40, .inl (fun _ => 0))), (sbn, .inl (cI, 40, .inl (fun _ => 0))), (sde, .inr (1, [.int (-5), .int 0, .int 0])), (sbu, .inr (10, [.int 0, .ref sbc])), (sbc, .inl (cI, 8, .inl (fun _ => 0))), (nme, .inr (4, [.ref nho, .ref ndk, .ref nsh, .ref nmi, .ref nba, .ref nde, .ref nbu, .int 1, .int 0, .null, .int 0, .int 0, .int 0])), (nho, .inr (3, [.int 0, .int 50, .int 0, .ref nhw, .ref nhs])), (nhw, .inl (cI, 12, .inl (fun _ => 0))), (nhs, .inl (cI, 12, .inl (fun _ => 0))), (ndk, .inr (2, [.int 0, .int 0, .ref ndq, .ref ndr])), (ndq, .inl (cQ, 20, .inr (.inr (.inr (.inr (qf nQ 20)))))), (ndr, .inl (cI, 20, .inl (fun _ => 0))), (nsh, .inr (9, [.int 0, .ref nst, .ref nss, .ref nsp])), (nst, .inl (cM, 160, .inr (.inr (.inr (.inr (fun _ => none)))))), (nss, .inl (cI, 160, .inl (fun _ => 0))), (nsp, .inl (cI, 160, .inl (fun _ => 0))), (nmi, .inr (5, [.int 0, .int 0, .ref nma, .ref nmb, .ref nmc, .ref nmd, .ref nmm])), (nma, .inl (cI, 120, .inl (fun _ => 0))), (nmb, .inl (cI, 120, .inl (fun _ => 0))), (nmc, .inl (cI, 120, .inl (fun _ => 0))), (nmd, .inl (cI, 120, .inl (fun _ => 0))), (nmm, .inl (cM, 120, .inr (.inr (.inr (.inr (fun _ => none)))))), (nba, .inr (0, [.int 0, .int 0, .int 0, .ref nby, .ref nbn, .int 0, .int 0, .int 0, .int 0, .int 0, .int 99, .int 0, .int 0])), (nby, .inl (cI, 40, .inl (fun _ => 0))), (nbn, .inl (cI, 40, .inl (fun _ => 0))), (nde, .inr (1, [.int (-5), .int 0, .int 0])), (nbu, .inr (10, [.int 0, .ref nbc])), (nbc, .inl (cI, 8, .inl (fun _ => 0))), (m0, .inr (12, [.ref gweight, .ref gpresent, .ref gspeeches, .int 0, .int 50, .int 0, .int 0, .ref gbuffer, .ref gstate, .ref gplace, .ref gmover, .ref gpart, .ref gamended, .ref gmany, .ref gclause, .ref gfirstMany, .ref gfirstClause, .int 0, .int 0, .int 0, .int (-1), .ref gresolution, .ref gmotion, .ref gaway, .ref gawayMany, .ref gawayOrder, .ref gtable, .ref gcommittee, .int 0, .int 0, .int 0, .int 0, .int 0, .int 0, .int 0, .int 0, .int (-5), .int 0, .int 0, .ref glone, .int 0, .ref gentry, .ref gchange, .int 0, .int (-1), .int 0, .int 0, .ref gyesBy, .ref gnoBy, .int 0, .int 0, .int 0, .int 0, .int 0, .int 0, .ref gdraft, .ref grow, .ref growMany, .ref growFloats, .ref gsaved, .int 0, .int 0, .int 0])), (gsaved, .inl (cI, 5000, .inl (fun _ => 0))), (gweight, .inl (cI, 12, .inl (fun _ => 0))), (gpresent, .inl (cI, 12, .inl (fun _ => 0))), (gspeeches, .inl (cI, 12, .inl (fun _ => 0))), (gbuffer, .inl (cI, 8, .inl (fun _ => 0))), (gstate, .inl (cI, 20, .inl (fun _ => 0))), (gplace, .inl (cI, 20, .inl (fun _ => 0))), (gmover, .inl (cI, 20, .inl (fun _ => 0))), (gpart, .inl (cI, 20, .inl (fun _ => 0))), (gamended, .inl (cI, 20, .inl (fun _ => 0))), (gmany, .inl (cI, 20, .inl (fun _ => 0))), (gclause, .inl (cI, 160, .inl (fun _ => 0))), (gfirstMany, .inl (cI, 20, .inl (fun _ => 0))), (gfirstClause, .inl (cI, 160, .inl (fun _ => 0))), (gresolution, .inl (cI, 40, .inl (fun _ => 0))), (gmotion, .inl (cI, 60, .inl (fun _ => 0))), (gaway, .inl (cI, 1200, .inl (fun _ => 0))), (gawayMany, .inl (cI, 20, .inl (fun _ => 0))), (gawayOrder, .inl (cI, 20, .inl (fun _ => 0))), (glone, .inl (cI, 1040, .inl (fun _ => 0))), (gtable, .inl (cI, 3, .inl (fun _ => 0))), (gcommittee, .inl (cI, 4, .inl (upd (upd (upd (upd (fun _ => 0) 0 (-1)) 1 (-1)) 2 (-1)) 3 (-1)))), (gentry, .inl (cI, 480, .inl (fun _ => 0))), (gchange, .inl (cI, 480, .inl (fun _ => 0))), (gyesBy, .inl (cI, 40, .inl (fun _ => 0))), (gnoBy, .inl (cI, 40, .inl (fun _ => 0)))]) (cx := [(x0, .inr (11, [.ref nme, .ref sme, .int 0, .ref xr, .ref xs])), (sme, .inr (4, [.ref sho, .ref sdk, .ref ssh, .ref smi, .ref sba, .ref sde, .ref sbu, .int 1, .int 0, .null, .int 0, .int 0, .int 0])), (sho, .inr (3, [.int 0, .int 50, .int 0, .ref shw, .ref shs])), (shw, .inl (cI, 12, .inl (fun _ => 0))), (shs, .inl (cI, 12, .inl (fun _ => 0))), (sdk, .inr (2, [.int 0, .int 0, .ref sdq, .ref sdr])), (sdq, .inl (cQ, 20, .inr (.inr (.inr (.inr (qf sQ 20)))))), (sdr, .inl (cI, 20, .inl (fun _ => 0))), (ssh, .inr (9, [.int 0, .ref sst, .ref sss, .ref ssp])), (sst, .inl (cM, 160, .inr (.inr (.inr (.inr (fun _ => none)))))), (sss, .inl (cI, 160, .inl (fun _ => 0))), (ssp, .inl (cI, 160, .inl (fun _ => 0))), (smi, .inr (5, [.int 0, .int 0, .ref sma, .ref smb, .ref smc, .ref smd, .ref smm])), (sma, .inl (cI, 120, .inl (fun _ => 0))), (smb, .inl (cI, 120, .inl (fun _ => 0))), (smc, .inl (cI, 120, .inl (fun _ => 0))), (smd, .inl (cI, 120, .inl (fun _ => 0))), (smm, .inl (cM, 120, .inr (.inr (.inr (.inr (fun _ => none)))))), (sba, .inr (0, [.int 0, .int 0, .int 0, .ref sby, .ref sbn, .int 0, .int 0, .int 0, .int 0, .int 0, .int 99, .int 0, .int 0])), (sby, .inl (cI, 40, .inl (fun _ => 0))), (sbn, .inl (cI, 40, .inl (fun _ => 0))), (sde, .inr (1, [.int (-5), .int 0, .int 0])), (sbu, .inr (10, [.int 0, .ref sbc])), (sbc, .inl (cI, 8, .inl (fun _ => 0))), (nme, .inr (4, [.ref nho, .ref ndk, .ref nsh, .ref nmi, .ref nba, .ref nde, .ref nbu, .int 1, .int 0, .null, .int 0, .int 0, .int 0])), (nho, .inr (3, [.int 0, .int 50, .int 0, .ref nhw, .ref nhs])), (nhw, .inl (cI, 12, .inl (fun _ => 0))), (nhs, .inl (cI, 12, .inl (fun _ => 0))), (ndk, .inr (2, [.int 0, .int 0, .ref ndq, .ref ndr])), (ndq, .inl (cQ, 20, .inr (.inr (.inr (.inr (qf nQ 20)))))), (ndr, .inl (cI, 20, .inl (fun _ => 0))), (nsh, .inr (9, [.int 0, .ref nst, .ref nss, .ref nsp])), (nst, .inl (cM, 160, .inr (.inr (.inr (.inr (fun _ => none)))))), (nss, .inl (cI, 160, .inl (fun _ => 0))), (nsp, .inl (cI, 160, .inl (fun _ => 0))), (nmi, .inr (5, [.int 0, .int 0, .ref nma, .ref nmb, .ref nmc, .ref nmd, .ref nmm])), (nma, .inl (cI, 120, .inl (fun _ => 0))), (nmb, .inl (cI, 120, .inl (fun _ => 0))), (nmc, .inl (cI, 120, .inl (fun _ => 0))), (nmd, .inl (cI, 120, .inl (fun _ => 0))), (nmm, .inl (cM, 120, .inr (.inr (.inr (.inr (fun _ => none)))))), (nba, .inr (0, [.int 0, .int 0, .int 0, .ref nby, .ref nbn, .int 0, .int 0, .int 0, .int 0, .int 0, .int 99, .int 0, .int 0])), (nby, .inl (cI, 40, .inl (fun _ => 0))), (nbn, .inl (cI, 40, .inl (fun _ => 0))), (nde, .inr (1, [.int (-5), .int 0, .int 0])), (nbu, .inr (10, [.int 0, .ref nbc])), (nbc, .inl (cI, 8, .inl (fun _ => 0)))]) (pl := ((qsW cI sQ 20) ++ (qsW cI nQ 20))) hD hS hA [0, 1, 2, 3, 4, 5, 6, 7, 8, 9, 10, 11, 12, 13, 14, 15, 16, 17, 18, 19, 20, 21, 22, 23, 24, 25, 26, 27, 28, 29, 30, 31, 32, 33, 34, 35, 36, 37, 38, 39, 40, 41, 42, 43, 44, 45, 46] rfl
  refine va_calli (va_runV (As := []) (rest := []) ⟨hx, hb, hml, hown, hts⟩ (c_X11_image l D cI cQ cM cR x0 nme sme xr xs sho sdk ssh smi sba sde sbu shw shs sdq sdr sst sss ssp sma smb smc smd smm sby sbn sbc nho ndk nsh nmi nba nde nbu nhw nhs ndq ndr nst nss nsp nma nmb nmc nmd nmm nby nbn nbc sQ nQ H.size) (cwV 0 hts (gV q_970 q_971 q_972 q_65 q_973) rfl rfl rfl (by decide +kernel) ⟨Nat.le_of_ble_eq_true rfl, Nat.le_of_ble_eq_true rfl⟩) ⟨PW_blind, va_recv hK hP (ci := 11) (q0 := 0) rfl rfl, PW_of hK (hP.part [0, 1, 2, 3, 4, 5, 6, 7, 8, 9, 10, 11, 12, 13, 14, 15, 16, 17, 18, 19, 20, 21, 22, 23, 24, 25, 26, 27, 28, 29, 30, 31, 32, 33, 34, 35, 36, 37, 38, 39, 40, 41, 42, 43, 44, 45, 46] rfl) (hD.part [0, 1, 2, 3, 4, 5, 6, 7, 8, 9, 10, 11, 12, 13, 14, 15, 16, 17, 18, 19, 20, 21, 22, 23, 24, 25, 26, 27, 28, 29, 30, 31, 32, 33, 34, 35, 36, 37, 38, 39, 40, 41, 42, 43, 44, 45, 46] (by decide) rfl)⟩ rfl rfl hl.1 rfl (lv_room (Nat.le_of_ble_eq_true rfl)) dL_law_950 ⟨Nat.le_of_ble_eq_true rfl, Nat.le_of_ble_eq_true rfl⟩) hS (fun q _ h => hFc q h) hFc (fun r_1 u t H1 locs ht hvm hw hB hz1 hk1 hS => ?_)
  have hP1 : va_P D vwCl [] H1 := va_P_nil
  have hD1 : va_D (va_A ([(x0, .inr (11, [.ref nme, .ref sme, .int 0, .ref xr, .ref xs])), (sme, .inr (4, [.ref sho, .ref sdk, .ref ssh, .ref smi, .ref sba, .ref sde, .ref sbu, .int 1, .int 0, .null, .int 0, .int 0, .int 0])), (sho, .inr (3, [.int 0, .int 50, .int 0, .ref shw, .ref shs])), (shw, .inl (cI, 12, .inl (fun _ => 0))), (shs, .inl (cI, 12, .inl (fun _ => 0))), (sdk, .inr (2, [.int 0, .int 0, .ref sdq, .ref sdr])), (sdq, .inl (cQ, 20, .inr (.inr (.inr (.inr (qf sQ 20)))))), (sdr, .inl (cI, 20, .inl (fun _ => 0))), (ssh, .inr (9, [.int 0, .ref sst, .ref sss, .ref ssp])), (sst, .inl (cM, 160, .inr (.inr (.inr (.inr (fun _ => none)))))), (sss, .inl (cI, 160, .inl (fun _ => 0))), (ssp, .inl (cI, 160, .inl (fun _ => 0))), (smi, .inr (5, [.int 0, .int 0, .ref sma, .ref smb, .ref smc, .ref smd, .ref smm])), (sma, .inl (cI, 120, .inl (fun _ => 0))), (smb, .inl (cI, 120, .inl (fun _ => 0))), (smc, .inl (cI, 120, .inl (fun _ => 0))), (smd, .inl (cI, 120, .inl (fun _ => 0))), (smm, .inl (cM, 120, .inr (.inr (.inr (.inr (fun _ => none)))))), (sba, .inr (0, [.int 0, .int 0, .int 0, .ref sby, .ref sbn, .int 0, .int 0, .int 0, .int 0, .int 0, .int 99, .int 0, .int 0])), (sby, .inl (cI, 40, .inl (fun _ => 0))), (sbn, .inl (cI, 40, .inl (fun _ => 0))), (sde, .inr (1, [.int (-5), .int 0, .int 0])), (sbu, .inr (10, [.int 0, .ref sbc])), (sbc, .inl (cI, 8, .inl (fun _ => 0))), (nme, .inr (4, [.ref nho, .ref ndk, .ref nsh, .ref nmi, .ref nba, .ref nde, .ref nbu, .int 1, .int 0, .null, .int 0, .int 0, .int 0])), (nho, .inr (3, [.int 0, .int 50, .int 0, .ref nhw, .ref nhs])), (nhw, .inl (cI, 12, .inl (fun _ => 0))), (nhs, .inl (cI, 12, .inl (fun _ => 0))), (ndk, .inr (2, [.int 0, .int 0, .ref ndq, .ref ndr])), (ndq, .inl (cQ, 20, .inr (.inr (.inr (.inr (qf nQ 20)))))), (ndr, .inl (cI, 20, .inl (fun _ => 0))), (nsh, .inr (9, [.int 0, .ref nst, .ref nss, .ref nsp])), (nst, .inl (cM, 160, .inr (.inr (.inr (.inr (fun _ => none)))))), (nss, .inl (cI, 160, .inl (fun _ => 0))), (nsp, .inl (cI, 160, .inl (fun _ => 0))), (nmi, .inr (5, [.int 0, .int 0, .ref nma, .ref nmb, .ref nmc, .ref nmd, .ref nmm])), (nma, .inl (cI, 120, .inl (fun _ => 0))), (nmb, .inl (cI, 120, .inl (fun _ => 0))), (nmc, .inl (cI, 120, .inl (fun _ => 0))), (nmd, .inl (cI, 120, .inl (fun _ => 0))), (nmm, .inl (cM, 120, .inr (.inr (.inr (.inr (fun _ => none)))))), (nba, .inr (0, [.int 0, .int 0, .int 0, .ref nby, .ref nbn, .int 0, .int 0, .int 0, .int 0, .int 0, .int 99, .int 0, .int 0])), (nby, .inl (cI, 40, .inl (fun _ => 0))), (nbn, .inl (cI, 40, .inl (fun _ => 0))), (nde, .inr (1, [.int (-5), .int 0, .int 0])), (nbu, .inr (10, [.int 0, .ref nbc])), (nbc, .inl (cI, 8, .inl (fun _ => 0)))] ++ ((qsW cI sQ 20) ++ (qsW cI nQ 20))) H.size) [] := va_D_nil
  obtain ⟨hP, hD⟩ := va_joinP (X := [(x0, .inr (11, [.ref nme, .ref sme, .int 0, .ref xr, .ref xs])), (sme, .inr (4, [.ref sho, .ref sdk, .ref ssh, .ref smi, .ref sba, .ref sde, .ref sbu, .int 1, .int 0, .null, .int 0, .int 0, .int 0])), (sho, .inr (3, [.int 0, .int 50, .int 0, .ref shw, .ref shs])), (shw, .inl (cI, 12, .inl (fun _ => 0))), (shs, .inl (cI, 12, .inl (fun _ => 0))), (sdk, .inr (2, [.int 0, .int 0, .ref sdq, .ref sdr])), (sdq, .inl (cQ, 20, .inr (.inr (.inr (.inr (qf sQ 20)))))), (sdr, .inl (cI, 20, .inl (fun _ => 0))), (ssh, .inr (9, [.int 0, .ref sst, .ref sss, .ref ssp])), (sst, .inl (cM, 160, .inr (.inr (.inr (.inr (fun _ => none)))))), (sss, .inl (cI, 160, .inl (fun _ => 0))), (ssp, .inl (cI, 160, .inl (fun _ => 0))), (smi, .inr (5, [.int 0, .int 0, .ref sma, .ref smb, .ref smc, .ref smd, .ref smm])), (sma, .inl (cI, 120, .inl (fun _ => 0))), (smb, .inl (cI, 120, .inl (fun _ => 0))), (smc, .inl (cI, 120, .inl (fun _ => 0))), (smd, .inl (cI, 120, .inl (fun _ => 0))), (smm, .inl (cM, 120, .inr (.inr (.inr (.inr (fun _ => none)))))), (sba, .inr (0, [.int 0, .int 0, .int 0, .ref sby, .ref sbn, .int 0, .int 0, .int 0, .int 0, .int 0, .int 99, .int 0, .int 0])), (sby, .inl (cI, 40, .inl (fun _ => 0))), (sbn, .inl (cI, 40, .inl (fun _ => 0))), (sde, .inr (1, [.int (-5), .int 0, .int 0])), (sbu, .inr (10, [.int 0, .ref sbc])), (sbc, .inl (cI, 8, .inl (fun _ => 0))), (nme, .inr (4, [.ref nho, .ref ndk, .ref nsh, .ref nmi, .ref nba, .ref nde, .ref nbu, .int 1, .int 0, .null, .int 0, .int 0, .int 0])), (nho, .inr (3, [.int 0, .int 50, .int 0, .ref nhw, .ref nhs])), (nhw, .inl (cI, 12, .inl (fun _ => 0))), (nhs, .inl (cI, 12, .inl (fun _ => 0))), (ndk, .inr (2, [.int 0, .int 0, .ref ndq, .ref ndr])), (ndq, .inl (cQ, 20, .inr (.inr (.inr (.inr (qf nQ 20)))))), (ndr, .inl (cI, 20, .inl (fun _ => 0))), (nsh, .inr (9, [.int 0, .ref nst, .ref nss, .ref nsp])), (nst, .inl (cM, 160, .inr (.inr (.inr (.inr (fun _ => none)))))), (nss, .inl (cI, 160, .inl (fun _ => 0))), (nsp, .inl (cI, 160, .inl (fun _ => 0))), (nmi, .inr (5, [.int 0, .int 0, .ref nma, .ref nmb, .ref nmc, .ref nmd, .ref nmm])), (nma, .inl (cI, 120, .inl (fun _ => 0))), (nmb, .inl (cI, 120, .inl (fun _ => 0))), (nmc, .inl (cI, 120, .inl (fun _ => 0))), (nmd, .inl (cI, 120, .inl (fun _ => 0))), (nmm, .inl (cM, 120, .inr (.inr (.inr (.inr (fun _ => none)))))), (nba, .inr (0, [.int 0, .int 0, .int 0, .ref nby, .ref nbn, .int 0, .int 0, .int 0, .int 0, .int 0, .int 99, .int 0, .int 0])), (nby, .inl (cI, 40, .inl (fun _ => 0))), (nbn, .inl (cI, 40, .inl (fun _ => 0))), (nde, .inr (1, [.int (-5), .int 0, .int 0])), (nbu, .inr (10, [.int 0, .ref nbc])), (nbc, .inl (cI, 8, .inl (fun _ => 0))), (m0, .inr (12, [.ref gweight, .ref gpresent, .ref gspeeches, .int 0, .int 50, .int 0, .int 0, .ref gbuffer, .ref gstate, .ref gplace, .ref gmover, .ref gpart, .ref gamended, .ref gmany, .ref gclause, .ref gfirstMany, .ref gfirstClause, .int 0, .int 0, .int 0, .int (-1), .ref gresolution, .ref gmotion, .ref gaway, .ref gawayMany, .ref gawayOrder, .ref gtable, .ref gcommittee, .int 0, .int 0, .int 0, .int 0, .int 0, .int 0, .int 0, .int 0, .int (-5), .int 0, .int 0, .ref glone, .int 0, .ref gentry, .ref gchange, .int 0, .int (-1), .int 0, .int 0, .ref gyesBy, .ref gnoBy, .int 0, .int 0, .int 0, .int 0, .int 0, .int 0, .ref gdraft, .ref grow, .ref growMany, .ref growFloats, .ref gsaved, .int 0, .int 0, .int 0])), (gsaved, .inl (cI, 5000, .inl (fun _ => 0))), (gweight, .inl (cI, 12, .inl (fun _ => 0))), (gpresent, .inl (cI, 12, .inl (fun _ => 0))), (gspeeches, .inl (cI, 12, .inl (fun _ => 0))), (gbuffer, .inl (cI, 8, .inl (fun _ => 0))), (gstate, .inl (cI, 20, .inl (fun _ => 0))), (gplace, .inl (cI, 20, .inl (fun _ => 0))), (gmover, .inl (cI, 20, .inl (fun _ => 0))), (gpart, .inl (cI, 20, .inl (fun _ => 0))), (gamended, .inl (cI, 20, .inl (fun _ => 0))), (gmany, .inl (cI, 20, .inl (fun _ => 0))), (gclause, .inl (cI, 160, .inl (fun _ => 0))), (gfirstMany, .inl (cI, 20, .inl (fun _ => 0))), (gfirstClause, .inl (cI, 160, .inl (fun _ => 0))), (gresolution, .inl (cI, 40, .inl (fun _ => 0))), (gmotion, .inl (cI, 60, .inl (fun _ => 0))), (gaway, .inl (cI, 1200, .inl (fun _ => 0))), (gawayMany, .inl (cI, 20, .inl (fun _ => 0))), (gawayOrder, .inl (cI, 20, .inl (fun _ => 0))), (glone, .inl (cI, 1040, .inl (fun _ => 0))), (gtable, .inl (cI, 3, .inl (fun _ => 0))), (gcommittee, .inl (cI, 4, .inl (upd (upd (upd (upd (fun _ => 0) 0 (-1)) 1 (-1)) 2 (-1)) 3 (-1)))), (gentry, .inl (cI, 480, .inl (fun _ => 0))), (gchange, .inl (cI, 480, .inl (fun _ => 0))), (gyesBy, .inl (cI, 40, .inl (fun _ => 0))), (gnoBy, .inl (cI, 40, .inl (fun _ => 0)))]) (cx := [(x0, .inr (11, [.ref nme, .ref sme, .int 0, .ref xr, .ref xs])), (sme, .inr (4, [.ref sho, .ref sdk, .ref ssh, .ref smi, .ref sba, .ref sde, .ref sbu, .int 1, .int 0, .null, .int 0, .int 0, .int 0])), (sho, .inr (3, [.int 0, .int 50, .int 0, .ref shw, .ref shs])), (shw, .inl (cI, 12, .inl (fun _ => 0))), (shs, .inl (cI, 12, .inl (fun _ => 0))), (sdk, .inr (2, [.int 0, .int 0, .ref sdq, .ref sdr])), (sdq, .inl (cQ, 20, .inr (.inr (.inr (.inr (qf sQ 20)))))), (sdr, .inl (cI, 20, .inl (fun _ => 0))), (ssh, .inr (9, [.int 0, .ref sst, .ref sss, .ref ssp])), (sst, .inl (cM, 160, .inr (.inr (.inr (.inr (fun _ => none)))))), (sss, .inl (cI, 160, .inl (fun _ => 0))), (ssp, .inl (cI, 160, .inl (fun _ => 0))), (smi, .inr (5, [.int 0, .int 0, .ref sma, .ref smb, .ref smc, .ref smd, .ref smm])), (sma, .inl (cI, 120, .inl (fun _ => 0))), (smb, .inl (cI, 120, .inl (fun _ => 0))), (smc, .inl (cI, 120, .inl (fun _ => 0))), (smd, .inl (cI, 120, .inl (fun _ => 0))), (smm, .inl (cM, 120, .inr (.inr (.inr (.inr (fun _ => none)))))), (sba, .inr (0, [.int 0, .int 0, .int 0, .ref sby, .ref sbn, .int 0, .int 0, .int 0, .int 0, .int 0, .int 99, .int 0, .int 0])), (sby, .inl (cI, 40, .inl (fun _ => 0))), (sbn, .inl (cI, 40, .inl (fun _ => 0))), (sde, .inr (1, [.int (-5), .int 0, .int 0])), (sbu, .inr (10, [.int 0, .ref sbc])), (sbc, .inl (cI, 8, .inl (fun _ => 0))), (nme, .inr (4, [.ref nho, .ref ndk, .ref nsh, .ref nmi, .ref nba, .ref nde, .ref nbu, .int 1, .int 0, .null, .int 0, .int 0, .int 0])), (nho, .inr (3, [.int 0, .int 50, .int 0, .ref nhw, .ref nhs])), (nhw, .inl (cI, 12, .inl (fun _ => 0))), (nhs, .inl (cI, 12, .inl (fun _ => 0))), (ndk, .inr (2, [.int 0, .int 0, .ref ndq, .ref ndr])), (ndq, .inl (cQ, 20, .inr (.inr (.inr (.inr (qf nQ 20)))))), (ndr, .inl (cI, 20, .inl (fun _ => 0))), (nsh, .inr (9, [.int 0, .ref nst, .ref nss, .ref nsp])), (nst, .inl (cM, 160, .inr (.inr (.inr (.inr (fun _ => none)))))), (nss, .inl (cI, 160, .inl (fun _ => 0))), (nsp, .inl (cI, 160, .inl (fun _ => 0))), (nmi, .inr (5, [.int 0, .int 0, .ref nma, .ref nmb, .ref nmc, .ref nmd, .ref nmm])), (nma, .inl (cI, 120, .inl (fun _ => 0))), (nmb, .inl (cI, 120, .inl (fun _ => 0))), (nmc, .inl (cI, 120, .inl (fun _ => 0))), (nmd, .inl (cI, 120, .inl (fun _ => 0))), (nmm, .inl (cM, 120, .inr (.inr (.inr (.inr (fun _ => none)))))), (nba, .inr (0, [.int 0, .int 0, .int 0, .ref nby, .ref nbn, .int 0, .int 0, .int 0, .int 0, .int 0, .int 99, .int 0, .int 0])), (nby, .inl (cI, 40, .inl (fun _ => 0))), (nbn, .inl (cI, 40, .inl (fun _ => 0))), (nde, .inr (1, [.int (-5), .int 0, .int 0])), (nbu, .inr (10, [.int 0, .ref nbc])), (nbc, .inl (cI, 8, .inl (fun _ => 0)))]) (pl := ((qsW cI sQ 20) ++ (qsW cI nQ 20))) (wr := [(m0, .inr (12, [.ref gweight, .ref gpresent, .ref gspeeches, .int 0, .int 50, .int 0, .int 0, .ref gbuffer, .ref gstate, .ref gplace, .ref gmover, .ref gpart, .ref gamended, .ref gmany, .ref gclause, .ref gfirstMany, .ref gfirstClause, .int 0, .int 0, .int 0, .int (-1), .ref gresolution, .ref gmotion, .ref gaway, .ref gawayMany, .ref gawayOrder, .ref gtable, .ref gcommittee, .int 0, .int 0, .int 0, .int 0, .int 0, .int 0, .int 0, .int 0, .int (-5), .int 0, .int 0, .ref glone, .int 0, .ref gentry, .ref gchange, .int 0, .int (-1), .int 0, .int 0, .ref gyesBy, .ref gnoBy, .int 0, .int 0, .int 0, .int 0, .int 0, .int 0, .ref gdraft, .ref grow, .ref growMany, .ref growFloats, .ref gsaved, .int 0, .int 0, .int 0])), (gsaved, .inl (cI, 5000, .inl (fun _ => 0))), (gweight, .inl (cI, 12, .inl (fun _ => 0))), (gpresent, .inl (cI, 12, .inl (fun _ => 0))), (gspeeches, .inl (cI, 12, .inl (fun _ => 0))), (gbuffer, .inl (cI, 8, .inl (fun _ => 0))), (gstate, .inl (cI, 20, .inl (fun _ => 0))), (gplace, .inl (cI, 20, .inl (fun _ => 0))), (gmover, .inl (cI, 20, .inl (fun _ => 0))), (gpart, .inl (cI, 20, .inl (fun _ => 0))), (gamended, .inl (cI, 20, .inl (fun _ => 0))), (gmany, .inl (cI, 20, .inl (fun _ => 0))), (gclause, .inl (cI, 160, .inl (fun _ => 0))), (gfirstMany, .inl (cI, 20, .inl (fun _ => 0))), (gfirstClause, .inl (cI, 160, .inl (fun _ => 0))), (gresolution, .inl (cI, 40, .inl (fun _ => 0))), (gmotion, .inl (cI, 60, .inl (fun _ => 0))), (gaway, .inl (cI, 1200, .inl (fun _ => 0))), (gawayMany, .inl (cI, 20, .inl (fun _ => 0))), (gawayOrder, .inl (cI, 20, .inl (fun _ => 0))), (glone, .inl (cI, 1040, .inl (fun _ => 0))), (gtable, .inl (cI, 3, .inl (fun _ => 0))), (gcommittee, .inl (cI, 4, .inl (upd (upd (upd (upd (fun _ => 0) 0 (-1)) 1 (-1)) 2 (-1)) 3 (-1)))), (gentry, .inl (cI, 480, .inl (fun _ => 0))), (gchange, .inl (cI, 480, .inl (fun _ => 0))), (gyesBy, .inl (cI, 40, .inl (fun _ => 0))), (gnoBy, .inl (cI, 40, .inl (fun _ => 0)))]) (rx := []) (pl1 := []) hP hD [0, 1, 2, 3, 4, 5, 6, 7, 8, 9, 10, 11, 12, 13, 14, 15, 16, 17, 18, 19, 20, 21, 22, 23, 24, 25, 26, 27, 28, 29, 30, 31, 32, 33, 34, 35, 36, 37, 38, 39, 40, 41, 42, 43, 44, 45, 46] [47, 48, 49, 50, 51, 52, 53, 54, 55, 56, 57, 58, 59, 60, 61, 62, 63, 64, 65, 66, 67, 68, 69, 70, 71, 72, 73] rfl rfl (by decide) (by decide) hk1 hFc hP1 hD1
  rw [List.append_nil] at hP hD
  generalize H1 = H at hP hS ⊢
  have hP : va_P D vwCl [(m0, .inr (12, [.ref gweight, .ref gpresent, .ref gspeeches, .int 0, .int 50, .int 0, .int 0, .ref gbuffer, .ref gstate, .ref gplace, .ref gmover, .ref gpart, .ref gamended, .ref gmany, .ref gclause, .ref gfirstMany, .ref gfirstClause, .int 0, .int 0, .int 0, .int (-1), .ref gresolution, .ref gmotion, .ref gaway, .ref gawayMany, .ref gawayOrder, .ref gtable, .ref gcommittee, .int 0, .int 0, .int 0, .int 0, .int 0, .int 0, .int 0, .int 0, .int (-5), .int 0, .int 0, .ref glone, .int 0, .ref gentry, .ref gchange, .int 0, .int (-1), .int 0, .int 0, .ref gyesBy, .ref gnoBy, .int 0, .int 0, .int 0, .int 0, .int 0, .int 0, .ref gdraft, .ref grow, .ref growMany, .ref growFloats, .ref gsaved, .int 0, .int 0, .int 0])), (gsaved, .inl (cI, 5000, .inl (fun _ => 0))), (gweight, .inl (cI, 12, .inl (fun _ => 0))), (gpresent, .inl (cI, 12, .inl (fun _ => 0))), (gspeeches, .inl (cI, 12, .inl (fun _ => 0))), (gbuffer, .inl (cI, 8, .inl (fun _ => 0))), (gstate, .inl (cI, 20, .inl (fun _ => 0))), (gplace, .inl (cI, 20, .inl (fun _ => 0))), (gmover, .inl (cI, 20, .inl (fun _ => 0))), (gpart, .inl (cI, 20, .inl (fun _ => 0))), (gamended, .inl (cI, 20, .inl (fun _ => 0))), (gmany, .inl (cI, 20, .inl (fun _ => 0))), (gclause, .inl (cI, 160, .inl (fun _ => 0))), (gfirstMany, .inl (cI, 20, .inl (fun _ => 0))), (gfirstClause, .inl (cI, 160, .inl (fun _ => 0))), (gresolution, .inl (cI, 40, .inl (fun _ => 0))), (gmotion, .inl (cI, 60, .inl (fun _ => 0))), (gaway, .inl (cI, 1200, .inl (fun _ => 0))), (gawayMany, .inl (cI, 20, .inl (fun _ => 0))), (gawayOrder, .inl (cI, 20, .inl (fun _ => 0))), (glone, .inl (cI, 1040, .inl (fun _ => 0))), (gtable, .inl (cI, 3, .inl (fun _ => 0))), (gcommittee, .inl (cI, 4, .inl (upd (upd (upd (upd (fun _ => 0) 0 (-1)) 1 (-1)) 2 (-1)) 3 (-1)))), (gentry, .inl (cI, 480, .inl (fun _ => 0))), (gchange, .inl (cI, 480, .inl (fun _ => 0))), (gyesBy, .inl (cI, 40, .inl (fun _ => 0))), (gnoBy, .inl (cI, 40, .inl (fun _ => 0)))] H := hP
  have hD : va_D A [(m0, .inr (12, [.ref gweight, .ref gpresent, .ref gspeeches, .int 0, .int 50, .int 0, .int 0, .ref gbuffer, .ref gstate, .ref gplace, .ref gmover, .ref gpart, .ref gamended, .ref gmany, .ref gclause, .ref gfirstMany, .ref gfirstClause, .int 0, .int 0, .int 0, .int (-1), .ref gresolution, .ref gmotion, .ref gaway, .ref gawayMany, .ref gawayOrder, .ref gtable, .ref gcommittee, .int 0, .int 0, .int 0, .int 0, .int 0, .int 0, .int 0, .int 0, .int (-5), .int 0, .int 0, .ref glone, .int 0, .ref gentry, .ref gchange, .int 0, .int (-1), .int 0, .int 0, .ref gyesBy, .ref gnoBy, .int 0, .int 0, .int 0, .int 0, .int 0, .int 0, .ref gdraft, .ref grow, .ref growMany, .ref growFloats, .ref gsaved, .int 0, .int 0, .int 0])), (gsaved, .inl (cI, 5000, .inl (fun _ => 0))), (gweight, .inl (cI, 12, .inl (fun _ => 0))), (gpresent, .inl (cI, 12, .inl (fun _ => 0))), (gspeeches, .inl (cI, 12, .inl (fun _ => 0))), (gbuffer, .inl (cI, 8, .inl (fun _ => 0))), (gstate, .inl (cI, 20, .inl (fun _ => 0))), (gplace, .inl (cI, 20, .inl (fun _ => 0))), (gmover, .inl (cI, 20, .inl (fun _ => 0))), (gpart, .inl (cI, 20, .inl (fun _ => 0))), (gamended, .inl (cI, 20, .inl (fun _ => 0))), (gmany, .inl (cI, 20, .inl (fun _ => 0))), (gclause, .inl (cI, 160, .inl (fun _ => 0))), (gfirstMany, .inl (cI, 20, .inl (fun _ => 0))), (gfirstClause, .inl (cI, 160, .inl (fun _ => 0))), (gresolution, .inl (cI, 40, .inl (fun _ => 0))), (gmotion, .inl (cI, 60, .inl (fun _ => 0))), (gaway, .inl (cI, 1200, .inl (fun _ => 0))), (gawayMany, .inl (cI, 20, .inl (fun _ => 0))), (gawayOrder, .inl (cI, 20, .inl (fun _ => 0))), (glone, .inl (cI, 1040, .inl (fun _ => 0))), (gtable, .inl (cI, 3, .inl (fun _ => 0))), (gcommittee, .inl (cI, 4, .inl (upd (upd (upd (upd (fun _ => 0) 0 (-1)) 1 (-1)) 2 (-1)) 3 (-1)))), (gentry, .inl (cI, 480, .inl (fun _ => 0))), (gchange, .inl (cI, 480, .inl (fun _ => 0))), (gyesBy, .inl (cI, 40, .inl (fun _ => 0))), (gnoBy, .inl (cI, 40, .inl (fun _ => 0)))] := hD
  obtain rfl : r_1 = 0 := hw
  refine lv_aload_n hx hb dL_law_953 rfl (lv_at hl 1 rfl) ?_
  have hFc := va_free (wc := [(m0, .inr (12, [.ref gweight, .ref gpresent, .ref gspeeches, .int 0, .int 50, .int 0, .int 0, .ref gbuffer, .ref gstate, .ref gplace, .ref gmover, .ref gpart, .ref gamended, .ref gmany, .ref gclause, .ref gfirstMany, .ref gfirstClause, .int 0, .int 0, .int 0, .int (-1), .ref gresolution, .ref gmotion, .ref gaway, .ref gawayMany, .ref gawayOrder, .ref gtable, .ref gcommittee, .int 0, .int 0, .int 0, .int 0, .int 0, .int 0, .int 0, .int 0, .int (-5), .int 0, .int 0, .ref glone, .int 0, .ref gentry, .ref gchange, .int 0, .int (-1), .int 0, .int 0, .ref gyesBy, .ref gnoBy, .int 0, .int 0, .int 0, .int 0, .int 0, .int 0, .ref gdraft, .ref grow, .ref growMany, .ref growFloats, .ref gsaved, .int 0, .int 0, .int 0])), (gsaved, .inl (cI, 5000, .inl (fun _ => 0))), (gweight, .inl (cI, 12, .inl (fun _ => 0))), (gpresent, .inl (cI, 12, .inl (fun _ => 0))), (gspeeches, .inl (cI, 12, .inl (fun _ => 0))), (gbuffer, .inl (cI, 8, .inl (fun _ => 0))), (gstate, .inl (cI, 20, .inl (fun _ => 0))), (gplace, .inl (cI, 20, .inl (fun _ => 0))), (gmover, .inl (cI, 20, .inl (fun _ => 0))), (gpart, .inl (cI, 20, .inl (fun _ => 0))), (gamended, .inl (cI, 20, .inl (fun _ => 0))), (gmany, .inl (cI, 20, .inl (fun _ => 0))), (gclause, .inl (cI, 160, .inl (fun _ => 0))), (gfirstMany, .inl (cI, 20, .inl (fun _ => 0))), (gfirstClause, .inl (cI, 160, .inl (fun _ => 0))), (gresolution, .inl (cI, 40, .inl (fun _ => 0))), (gmotion, .inl (cI, 60, .inl (fun _ => 0))), (gaway, .inl (cI, 1200, .inl (fun _ => 0))), (gawayMany, .inl (cI, 20, .inl (fun _ => 0))), (gawayOrder, .inl (cI, 20, .inl (fun _ => 0))), (glone, .inl (cI, 1040, .inl (fun _ => 0))), (gtable, .inl (cI, 3, .inl (fun _ => 0))), (gcommittee, .inl (cI, 4, .inl (upd (upd (upd (upd (fun _ => 0) 0 (-1)) 1 (-1)) 2 (-1)) 3 (-1)))), (gentry, .inl (cI, 480, .inl (fun _ => 0))), (gchange, .inl (cI, 480, .inl (fun _ => 0))), (gyesBy, .inl (cI, 40, .inl (fun _ => 0))), (gnoBy, .inl (cI, 40, .inl (fun _ => 0)))]) hD hS hA [0, 1, 2, 3, 4, 5, 6, 7, 8, 9, 10, 11, 12, 13, 14, 15, 16, 17, 18, 19, 20, 21, 22, 23, 24, 25, 26] rfl
  refine va_calli (va_runV (As := []) (rest := [.int 0]) ⟨hx, hb, hml, hown, hts⟩ (c_X12_image l D cI cQ cM cR m0 gweight gpresent gspeeches gbuffer gstate gplace gmover gpart gamended gmany gclause gfirstMany gfirstClause gresolution gmotion gaway gawayMany gawayOrder gtable gcommittee glone gentry gchange gyesBy gnoBy gdraft grow growMany growFloats gsaved H.size) (cwV 0 hts (gV q_1499 q_1500 q_1501 q_76 q_1502) rfl rfl rfl (by decide +kernel) ⟨Nat.le_of_ble_eq_true rfl, Nat.le_of_ble_eq_true rfl⟩) ⟨PW_blind, va_recv hK hP (ci := 12) (q0 := 0) rfl rfl, PW_of hK (hP.sub [0, 1, 2, 3, 4, 5, 6, 7, 8, 9, 10, 11, 12, 13, 14, 15, 16, 17, 18, 19, 20, 21, 22, 23, 24, 25, 26] rfl) (hD.sub [0, 1, 2, 3, 4, 5, 6, 7, 8, 9, 10, 11, 12, 13, 14, 15, 16, 17, 18, 19, 20, 21, 22, 23, 24, 25, 26] (by decide) rfl)⟩ rfl rfl hl.1 rfl (lv_room (Nat.le_of_ble_eq_true rfl)) dL_law_954 ⟨Nat.le_of_ble_eq_true rfl, Nat.le_of_ble_eq_true rfl⟩) hS (fun q _ h => hFc q h) hFc (fun r_2 u t H1 locs ht hvm hw hB hz1 hk1 hS => ?_)
  have hP1 : va_P D vwCl [] H1 := va_P_nil
  have hD1 : va_D (va_A [(m0, .inr (12, [.ref gweight, .ref gpresent, .ref gspeeches, .int 0, .int 50, .int 0, .int 0, .ref gbuffer, .ref gstate, .ref gplace, .ref gmover, .ref gpart, .ref gamended, .ref gmany, .ref gclause, .ref gfirstMany, .ref gfirstClause, .int 0, .int 0, .int 0, .int (-1), .ref gresolution, .ref gmotion, .ref gaway, .ref gawayMany, .ref gawayOrder, .ref gtable, .ref gcommittee, .int 0, .int 0, .int 0, .int 0, .int 0, .int 0, .int 0, .int 0, .int (-5), .int 0, .int 0, .ref glone, .int 0, .ref gentry, .ref gchange, .int 0, .int (-1), .int 0, .int 0, .ref gyesBy, .ref gnoBy, .int 0, .int 0, .int 0, .int 0, .int 0, .int 0, .ref gdraft, .ref grow, .ref growMany, .ref growFloats, .ref gsaved, .int 0, .int 0, .int 0])), (gsaved, .inl (cI, 5000, .inl (fun _ => 0))), (gweight, .inl (cI, 12, .inl (fun _ => 0))), (gpresent, .inl (cI, 12, .inl (fun _ => 0))), (gspeeches, .inl (cI, 12, .inl (fun _ => 0))), (gbuffer, .inl (cI, 8, .inl (fun _ => 0))), (gstate, .inl (cI, 20, .inl (fun _ => 0))), (gplace, .inl (cI, 20, .inl (fun _ => 0))), (gmover, .inl (cI, 20, .inl (fun _ => 0))), (gpart, .inl (cI, 20, .inl (fun _ => 0))), (gamended, .inl (cI, 20, .inl (fun _ => 0))), (gmany, .inl (cI, 20, .inl (fun _ => 0))), (gclause, .inl (cI, 160, .inl (fun _ => 0))), (gfirstMany, .inl (cI, 20, .inl (fun _ => 0))), (gfirstClause, .inl (cI, 160, .inl (fun _ => 0))), (gresolution, .inl (cI, 40, .inl (fun _ => 0))), (gmotion, .inl (cI, 60, .inl (fun _ => 0))), (gaway, .inl (cI, 1200, .inl (fun _ => 0))), (gawayMany, .inl (cI, 20, .inl (fun _ => 0))), (gawayOrder, .inl (cI, 20, .inl (fun _ => 0))), (glone, .inl (cI, 1040, .inl (fun _ => 0))), (gtable, .inl (cI, 3, .inl (fun _ => 0))), (gcommittee, .inl (cI, 4, .inl (upd (upd (upd (upd (fun _ => 0) 0 (-1)) 1 (-1)) 2 (-1)) 3 (-1)))), (gentry, .inl (cI, 480, .inl (fun _ => 0))), (gchange, .inl (cI, 480, .inl (fun _ => 0))), (gyesBy, .inl (cI, 40, .inl (fun _ => 0))), (gnoBy, .inl (cI, 40, .inl (fun _ => 0)))] H.size) [] := va_D_nil
  obtain ⟨hP, hD⟩ := va_join (wr := []) (w1 := []) hP hD [0, 1, 2, 3, 4, 5, 6, 7, 8, 9, 10, 11, 12, 13, 14, 15, 16, 17, 18, 19, 20, 21, 22, 23, 24, 25, 26] [] rfl rfl (by decide) (by decide) hk1 hFc hP1 hD1
  generalize H1 = H at hP hS ⊢
  have hP : va_P D vwCl [] H := hP
  have hD : va_D A [] := hD
  obtain rfl : r_2 = 0 := hw
  refine lv_icmp_eq (tgt := 975) hx hb dL_law_957 (by decide) (fun _ => ?_) (fun c9 => absurd (by decide) c9)
  exact law_end l C0 hK hAd hS hl
theorem dL_law_962 : decode cL_law 962 = .ok (.aload_n 1, 1) := by decide +kernel
theorem dL_law_963 : decode cL_law 963 = .ok (.invokevirtual 127, 3) := by decide +kernel
theorem dL_law_966 : decode cL_law 966 = .ok (.aload_n 2, 1) := by decide +kernel
theorem dL_law_967 : decode cL_law 967 = .ok (.invokevirtual 130, 3) := by decide +kernel
theorem dL_law_970 : decode cL_law 970 = .ok (.if_icmp .eq 5, 3) := by decide +kernel
set_option maxRecDepth 100000 in
theorem q_1526 : (.code yX12_undo cX12_undo 1 (some .int)) ∈ lw_all := List.mem_filter.mpr ⟨List.mem_of_getElem? (i := 1526) (rfl), by decide +kernel⟩
set_option maxRecDepth 100000 in
theorem q_1013 : (.code yX11_undo cX11_undo 1 (some .int)) ∈ lw_all := List.mem_filter.mpr ⟨List.mem_of_getElem? (i := 1013) (rfl), by decide +kernel⟩
set_option maxRecDepth 100000 in
theorem q_1524 : (.instanceMethod yX12_undo) ∈ lw_all := List.mem_filter.mpr ⟨List.mem_of_getElem? (i := 1524) (by decide +kernel), by decide +kernel⟩
set_option maxRecDepth 100000 in
theorem q_1011 : (.instanceMethod yX11_undo) ∈ lw_all := List.mem_filter.mpr ⟨List.mem_of_getElem? (i := 1011) (by decide +kernel), by decide +kernel⟩
set_option maxRecDepth 100000 in
theorem q_1010 : (.methodLink RL 127 yX11_undo) ∈ lw_all := List.mem_filter.mpr ⟨List.mem_of_getElem? (i := 1010) (by decide +kernel), by decide +kernel⟩
set_option maxRecDepth 100000 in
theorem q_1523 : (.methodLink RL 130 yX12_undo) ∈ lw_all := List.mem_filter.mpr ⟨List.mem_of_getElem? (i := 1523) (by decide +kernel), by decide +kernel⟩
set_option maxRecDepth 100000 in
theorem q_1012 : (.selects RX11 yX11_undo yX11_undo) ∈ lw_all := List.mem_filter.mpr ⟨List.mem_of_getElem? (i := 1012) (by decide +kernel), by decide +kernel⟩
set_option maxRecDepth 100000 in
theorem q_1525 : (.selects RX12 yX12_undo yX12_undo) ∈ lw_all := List.mem_filter.mpr ⟨List.mem_of_getElem? (i := 1525) (by decide +kernel), by decide +kernel⟩
set_option maxHeartbeats 4000000 in
set_option maxRecDepth 100000 in
theorem law_undo {p : Program} {e : Env} {s : State} {m : MethodId} {below : List Frame} {meth : Method} {c : Code} (l : Launch) {b : Nat} {zs : Nat → Int32} (C0 : lw_At p s m meth c b 6 zs) {D : va_G} {cI cQ cM cR : ClassId} (hK : va_K D vwCl (TY cI cQ cM cR) s) {A : Nat → Prop} (hAd : ∀ q : Nat, A q ↔ s.heap.size ≤ q) {x0 nme sme xr xs m0 gweight gpresent gspeeches gbuffer gstate gplace gmover gpart gamended gmany gclause gfirstMany gfirstClause gresolution gmotion gaway gawayMany gawayOrder gtable gcommittee glone gentry gchange gyesBy gnoBy gdraft grow growMany growFloats gsaved : Nat} {H : Heap} {locs : List Loc} (hS : va_S A s.heap H locs) (hP : va_P D vwCl [(x0, .inr (11, [.ref nme, .ref sme, .int 0, .ref xr, .ref xs])), (m0, .inr (12, [.ref gweight, .ref gpresent, .ref gspeeches, .int 0, .int 50, .int 0, .int 0, .ref gbuffer, .ref gstate, .ref gplace, .ref gmover, .ref gpart, .ref gamended, .ref gmany, .ref gclause, .ref gfirstMany, .ref gfirstClause, .int 0, .int 0, .int 0, .int (-1), .ref gresolution, .ref gmotion, .ref gaway, .ref gawayMany, .ref gawayOrder, .ref gtable, .ref gcommittee, .int 0, .int 0, .int 0, .int 0, .int 0, .int 0, .int 0, .int 0, .int (-5), .int 0, .int 0, .ref glone, .int 0, .ref gentry, .ref gchange, .int 0, .int (-1), .int 0, .int 0, .ref gyesBy, .ref gnoBy, .int 0, .int 0, .int 0, .int 0, .int 0, .int 0, .ref gdraft, .ref grow, .ref growMany, .ref growFloats, .ref gsaved, .int 0, .int 0, .int 0]))] H) (hD : va_D A [(x0, .inr (11, [.ref nme, .ref sme, .int 0, .ref xr, .ref xs])), (m0, .inr (12, [.ref gweight, .ref gpresent, .ref gspeeches, .int 0, .int 50, .int 0, .int 0, .ref gbuffer, .ref gstate, .ref gplace, .ref gmover, .ref gpart, .ref gamended, .ref gmany, .ref gclause, .ref gfirstMany, .ref gfirstClause, .int 0, .int 0, .int 0, .int (-1), .ref gresolution, .ref gmotion, .ref gaway, .ref gawayMany, .ref gawayOrder, .ref gtable, .ref gcommittee, .int 0, .int 0, .int 0, .int 0, .int 0, .int 0, .int 0, .int 0, .int (-5), .int 0, .int 0, .ref glone, .int 0, .ref gentry, .ref gchange, .int 0, .int (-1), .int 0, .int 0, .ref gyesBy, .ref gnoBy, .int 0, .int 0, .int 0, .int 0, .int 0, .int 0, .ref gdraft, .ref grow, .ref growMany, .ref growFloats, .ref gsaved, .int 0, .int 0, .int 0]))]) {ls : Array Slot} (hl : lv_has ls 4 [(3, .int 0), (2, .ref m0), (1, .ref x0), (0, .ref b)]) : W p l e room_1 s m #[Value.ref b] below meth c H locs 289 13007 (lw_Z below #[Value.ref b] s) (F0 m 962 ls []) := by
  obtain ⟨hx, hb, hr, hml, hown0, hts0, hX, hbl, hlocks, hgv⟩ := id C0
  have hown : s.vm.findClass RL = some m.cls := hown0
  have hts : ∀ w ∈ lw_all, w.before _ s = true := fun w h => hts0 w (List.mem_filter.mp h).1
  have hA : ∀ q : Nat, s.heap.size ≤ q → A q := fun q h => (hAd q).mpr h
  have hbA : ¬ A b := fun h => absurd ((hAd b).mp h) (Nat.not_le.mpr hbl)
  refine lv_aload_n hx hb dL_law_962 rfl (lv_at hl 2 rfl) ?_
  refine p_call (va_runV (As := []) (rest := []) ⟨hx, hb, hml, hown, hts⟩ (c_X11_undo l D cI cQ cM cR x0 nme sme xr xs) (cwV 0 hts (gV q_1010 q_1011 q_1012 q_65 q_1013) rfl rfl rfl (by decide +kernel) ⟨Nat.le_of_ble_eq_true rfl, Nat.le_of_ble_eq_true rfl⟩) ⟨PP_blind, va_recv hK hP (ci := 11) (q0 := 0) rfl rfl, PP_of hK (hP.sub [0] rfl)⟩ rfl rfl hl.1 rfl (lv_room (Nat.le_of_ble_eq_true rfl)) dL_law_963 ⟨Nat.le_of_ble_eq_true rfl, Nat.le_of_ble_eq_true rfl⟩) ?_
  refine lv_aload_n hx hb dL_law_966 rfl (lv_at hl 1 rfl) ?_
  refine p_call (va_runV (As := []) (rest := [.int (-3)]) ⟨hx, hb, hml, hown, hts⟩ (c_X12_undo l D cI cQ cM cR m0 gweight gpresent gspeeches gbuffer gstate gplace gmover gpart gamended gmany gclause gfirstMany gfirstClause gresolution gmotion gaway gawayMany gawayOrder gtable gcommittee glone gentry gchange gyesBy gnoBy gdraft grow growMany growFloats gsaved) (cwV 0 hts (gV q_1523 q_1524 q_1525 q_76 q_1526) rfl rfl rfl (by decide +kernel) ⟨Nat.le_of_ble_eq_true rfl, Nat.le_of_ble_eq_true rfl⟩) ⟨PP_blind, va_recv hK hP (ci := 12) (q0 := 1) rfl rfl, PP_of hK (hP.sub [1] rfl)⟩ rfl rfl hl.1 rfl (lv_room (Nat.le_of_ble_eq_true rfl)) dL_law_967 ⟨Nat.le_of_ble_eq_true rfl, Nat.le_of_ble_eq_true rfl⟩) ?_
  refine lv_icmp_eq (tgt := 975) hx hb dL_law_970 (by decide) (fun _ => ?_) (fun c9 => absurd (by decide) c9)
  exact law_end l C0 hK hAd hS hl
