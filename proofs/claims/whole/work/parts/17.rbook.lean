section C17
variable {l : Launch} {D : va_G} {ca : Nat → ClassId} {A : Nat → Prop} {G : gG} {N : Nat} {M : gm_M}

/-- seventeen addresses of rules (a rule, its lows, its highs), apart, from lo on -/
def okR (lo : Nat) (ra : Nat → Nat) : Prop := (∀ i, i < 17 → lo ≤ ra i ∧ ra i + 2 < lo + 51) ∧ ∀ i j, i < 17 → j < 17 → i ≠ j → ra i + 2 < ra j ∨ ra j + 2 < ra i
theorem rotx_lt17 {k n i : Nat} (hk : k < n) (hn : n ≤ 16) (hi : i < 17) : rotx k n i < 17 := by unfold rotx; split <;> (try split) <;> omega
theorem okR_rot {lo k n : Nat} {ra : Nat → Nat} (h : okR lo ra) (hk : k < n) (hn : n ≤ 16) : okR lo (rot ra k n) :=
  ⟨fun i hi => by rw [rot_x]; exact h.1 _ (rotx_lt17 hk hn hi), fun i j hi hj q => by rw [rot_x, rot_x]; exact h.2 _ _ (rotx_lt17 hk hn hi) (rotx_lt17 hk hn hj) (fun z => q (rotx_inj hk z))⟩
/-- what the rules hold: action, direction, protocol; the ends of the ranges -/
def okU (n : Nat) (ru lw hw : Nat → Nat → Nat) : Prop := (∀ i, i < n → ru i 0 < 3 ∧ ru i 1 < 3 ∧ ru i 2 < 4) ∧ ∀ i q, lw i q ≤ 255 ∧ hw i q ≤ 255
/-- the action of the first rule that matches, or drop -/
def pol (ru lw hw : Nat → Nat → Nat) (n d pr s t a : Nat) : Prop := (∃ k, k < n ∧ mat (ru k 1) (ru k 2) (lw k) (hw k) d pr s t ∧ (∀ j, j < k → ¬ mat (ru j 1) (ru j 2) (lw j) (hw j) d pr s t) ∧ a = ru k 0) ∨ ((∀ j, j < n → ¬ mat (ru j 1) (ru j 2) (lw j) (hw j) d pr s t) ∧ a = 1)
set_option maxHeartbeats 4000000 in
set_option maxRecDepth 100000 in
theorem c_Rb_isFull {tb rr n : Nat} (e1 : M tb = some (.inr (6, [.ref rr, .int (nI n)]))) (hn : n ≤ 16) : gC l D ca A G y_Rb_isFull (.code y_Rb_isFull b_Rb_isFull 1 (some .boolean)) ({ frames := 0, cells := 0, slots := 0, locals := 0 }) N M [.ref tb] gm_i (fun (r : Int32) (N1 : Nat) (M1 : gm_M) => N = N1 ∧ (((n = 16) ∧ M = M1 ∧ nI 1 = r) ∨ ((n < 16) ∧ M = M1 ∧ nI 0 = r))) := by
  refine gm_body (by decide) (Nat.le_of_ble_eq_true rfl) (fun p e s m below meth c ls hx hb hr hts hown hlk hml hnm hP hK hN hX hS hl => ?_)
  have htl : ∀ w ∈ LW, w.before _ s = true := fun w h => hts w (List.mem_cons_of_mem _ h)
  have hown : s.vm.findClass "PacketGate$RuleBook" = some m.cls := hown
  have hl : lv_has ls 1 [(0, .ref tb)] := hl
  refine lv_aload_n hx hb d_Rb_isFull_0 rfl (lv_at hl 0 rfl) ?_
  refine gm_get (C := R_Rb) (T := F_Rb) (n := 2) hx hb htl i_Rb hown hK hP e1 rfl 1 (by decide) (htl _ k_87) (fun _ h => h) rfl d_Rb_isFull_1 ?_
  refine lv_bipush (v := nI 16) hx hb d_Rb_isFull_4 (by decide) ?_
  refine ln_lt (tgt := 13) hx hb d_Rb_isFull_6 (by decide) (by omega) (by omega) (fun c_1 => ?_) (fun c_1 => ?_)
  · skip
    refine lv_iconst (v := nI 0) hx hb d_Rb_isFull_13 (by decide) ?_
    exact gc_zret hx hb hr hlk hP hS d_Rb_isFull_14 rfl (by first | exact ⟨rfl, Or.inl ⟨(by first | assumption | omega), rfl, rfl⟩⟩ | exact ⟨rfl, Or.inr ⟨(by first | assumption | omega), rfl, rfl⟩⟩)
  · skip
    refine lv_iconst (v := nI 1) hx hb d_Rb_isFull_9 (by decide) ?_
    refine lv_goto (tgt := 14) hx hb d_Rb_isFull_10 (by decide) ?_
    exact gc_zret hx hb hr hlk hP hS d_Rb_isFull_14 rfl (by first | exact ⟨rfl, Or.inl ⟨(by first | assumption | omega), rfl, rfl⟩⟩ | exact ⟨rfl, Or.inr ⟨(by first | assumption | omega), rfl, rfl⟩⟩)
set_option maxHeartbeats 4000000 in
set_option maxRecDepth 100000 in
theorem c_Rb_has (y : Int32) {tb rr n : Nat} (e1 : M tb = some (.inr (6, [.ref rr, .int (nI n)]))) (hn : n ≤ 16) : gC l D ca A G y_Rb_has (.code y_Rb_has b_Rb_has 2 (some .boolean)) ({ frames := 0, cells := 0, slots := 0, locals := 0 }) N M [.ref tb, .int y] gm_i (fun (r : Int32) (N1 : Nat) (M1 : gm_M) => N = N1 ∧ (((¬ y < nI 1 ∧ ¬ nI n < y) ∧ M = M1 ∧ nI 1 = r) ∨ ((¬ (¬ y < nI 1 ∧ ¬ nI n < y)) ∧ M = M1 ∧ nI 0 = r))) := by
  refine gm_body (by decide) (Nat.le_of_ble_eq_true rfl) (fun p e s m below meth c ls hx hb hr hts hown hlk hml hnm hP hK hN hX hS hl => ?_)
  have htl : ∀ w ∈ LW, w.before _ s = true := fun w h => hts w (List.mem_cons_of_mem _ h)
  have hown : s.vm.findClass "PacketGate$RuleBook" = some m.cls := hown
  have hl : lv_has ls 2 [(0, .ref tb), (1, .int y)] := hl
  refine lv_iload_n hx hb d_Rb_has_0 rfl (lv_at hl 1 rfl) ?_
  refine lv_iconst (v := nI 1) hx hb d_Rb_has_1 (by decide) ?_
  refine lv_icmp_lt (tgt := 17) hx hb d_Rb_has_2 (by decide) (fun c_1 => ?_) (fun c_1 => ?_)
  · skip
    refine lv_iconst (v := nI 0) hx hb d_Rb_has_17 (by decide) ?_
    exact gc_zret hx hb hr hlk hP hS d_Rb_has_18 rfl (by first | exact ⟨rfl, Or.inl ⟨(by exact ⟨by assumption, by assumption⟩), rfl, rfl⟩⟩ | exact ⟨rfl, Or.inr ⟨(by first | exact fun q => q.1 (by assumption) | exact fun q => q.2 (by assumption)), rfl, rfl⟩⟩)
  · skip
    refine lv_iload_n hx hb d_Rb_has_5 rfl (lv_at hl 1 rfl) ?_
    refine lv_aload_n hx hb d_Rb_has_6 rfl (lv_at hl 0 rfl) ?_
    refine gm_get (C := R_Rb) (T := F_Rb) (n := 2) hx hb htl i_Rb hown hK hP e1 rfl 1 (by decide) (htl _ k_87) (fun _ h => h) rfl d_Rb_has_7 ?_
    refine lv_icmp_gt (tgt := 17) hx hb d_Rb_has_10 (by decide) (fun c_2 => ?_) (fun c_2 => ?_)
    · skip
      refine lv_iconst (v := nI 0) hx hb d_Rb_has_17 (by decide) ?_
      exact gc_zret hx hb hr hlk hP hS d_Rb_has_18 rfl (by first | exact ⟨rfl, Or.inl ⟨(by exact ⟨by assumption, by assumption⟩), rfl, rfl⟩⟩ | exact ⟨rfl, Or.inr ⟨(by first | exact fun q => q.1 (by assumption) | exact fun q => q.2 (by assumption)), rfl, rfl⟩⟩)
    · skip
      refine lv_iconst (v := nI 1) hx hb d_Rb_has_13 (by decide) ?_
      refine lv_goto (tgt := 18) hx hb d_Rb_has_14 (by decide) ?_
      exact gc_zret hx hb hr hlk hP hS d_Rb_has_18 rfl (by first | exact ⟨rfl, Or.inl ⟨(by exact ⟨by assumption, by assumption⟩), rfl, rfl⟩⟩ | exact ⟨rfl, Or.inr ⟨(by first | exact fun q => q.1 (by assumption) | exact fun q => q.2 (by assumption)), rfl, rfl⟩⟩)
set_option maxHeartbeats 4000000 in
set_option maxRecDepth 100000 in
theorem c_Rb_get {tb rr n k : Nat} {ra : Nat → Nat} (e1 : M tb = some (.inr (6, [.ref rr, .int (nI n)]))) (e2 : M rr = some (.inl (ca 2, 17, .inr (.inr (.inr (.inr (oF ra))))))) (hk : k < 17) : gC l D ca A G y_Rb_get (.code y_Rb_get b_Rb_get 2 (some (.object "PacketGate$Rule"))) ({ frames := 0, cells := 0, slots := 0, locals := 0 }) N M [.ref tb, .int (nI (k + 1))] gm_r (fun (r : Nat) (N1 : Nat) (M1 : gm_M) => N = N1 ∧ M = M1 ∧ ra k = r) := by
  refine gm_body (by decide) (Nat.le_of_ble_eq_true rfl) (fun p e s m below meth c ls hx hb hr hts hown hlk hml hnm hP hK hN hX hS hl => ?_)
  have htl : ∀ w ∈ LW, w.before _ s = true := fun w h => hts w (List.mem_cons_of_mem _ h)
  have hown : s.vm.findClass "PacketGate$RuleBook" = some m.cls := hown
  have hl : lv_has ls 2 [(0, .ref tb), (1, .int (nI (k + 1)))] := hl
  refine lv_aload_n hx hb d_Rb_get_0 rfl (lv_at hl 0 rfl) ?_
  refine gm_get (C := R_Rb) (T := F_Rb) (n := 2) hx hb htl i_Rb hown hK hP e1 rfl 0 (by decide) (htl _ k_86) (fun _ h => h) rfl d_Rb_get_1 ?_
  refine lv_iload_n hx hb d_Rb_get_4 rfl (lv_at hl 1 rfl) ?_
  refine lv_iconst (v := nI 1) hx hb d_Rb_get_5 (by decide) ?_
  refine lv_isub hx hb d_Rb_get_6 ?_
  rw [show (nI (k + 1)) - (nI 1) = nI k from pk_sub (by omega)]
  refine gn_aald hx hb hK hP 2 e2 rfl (by omega) (by omega) rfl d_Rb_get_7 ?_
  exact gc_aret hx hb hr hlk hP hS d_Rb_get_8 ⟨rfl, rfl, rfl⟩
set_option maxHeartbeats 4000000 in
set_option maxRecDepth 100000 in
theorem c_Rb_spare {tb rr n : Nat} {ra : Nat → Nat} (e1 : M tb = some (.inr (6, [.ref rr, .int (nI n)]))) (e2 : M rr = some (.inl (ca 2, 17, .inr (.inr (.inr (.inr (oF ra))))))) (hn : n ≤ 16) : gC l D ca A G y_Rb_spare (.code y_Rb_spare b_Rb_spare 1 (some (.object "PacketGate$Rule"))) ({ frames := 0, cells := 0, slots := 0, locals := 0 }) N M [.ref tb] gm_r (fun (r : Nat) (N1 : Nat) (M1 : gm_M) => N = N1 ∧ M = M1 ∧ ra n = r) := by
  refine gm_body (by decide) (Nat.le_of_ble_eq_true rfl) (fun p e s m below meth c ls hx hb hr hts hown hlk hml hnm hP hK hN hX hS hl => ?_)
  have htl : ∀ w ∈ LW, w.before _ s = true := fun w h => hts w (List.mem_cons_of_mem _ h)
  have hown : s.vm.findClass "PacketGate$RuleBook" = some m.cls := hown
  have hl : lv_has ls 1 [(0, .ref tb)] := hl
  refine lv_aload_n hx hb d_Rb_spare_0 rfl (lv_at hl 0 rfl) ?_
  refine gm_get (C := R_Rb) (T := F_Rb) (n := 2) hx hb htl i_Rb hown hK hP e1 rfl 0 (by decide) (htl _ k_86) (fun _ h => h) rfl d_Rb_spare_1 ?_
  refine lv_aload_n hx hb d_Rb_spare_4 rfl (lv_at hl 0 rfl) ?_
  refine gm_get (C := R_Rb) (T := F_Rb) (n := 2) hx hb htl i_Rb hown hK hP e1 rfl 1 (by decide) (htl _ k_87) (fun _ h => h) rfl d_Rb_spare_5 ?_
  refine gn_aald hx hb hK hP 2 e2 rfl (by omega) (by omega) rfl d_Rb_spare_8 ?_
  exact gc_aret hx hb hr hlk hP hS d_Rb_spare_9 ⟨rfl, rfl, rfl⟩
set_option maxHeartbeats 4000000 in
set_option maxRecDepth 100000 in
theorem c_Rb_addSpare {tb rr n : Nat} (e1 : M tb = some (.inr (6, [.ref rr, .int (nI n)]))) (hn : n ≤ 16) : gC l D ca A G y_Rb_addSpare (.code y_Rb_addSpare b_Rb_addSpare 1 (some .int)) ({ frames := 0, cells := 0, slots := 0, locals := 0 }) N M [.ref tb] gm_i (fun (r : Int32) (N1 : Nat) (M1 : gm_M) => N = N1 ∧ gm_up M tb (.inr (6, [.ref rr, .int (nI (n + 1))])) = M1 ∧ nI (n + 1) = r) := by
  refine gm_body (by decide) (Nat.le_of_ble_eq_true rfl) (fun p e s m below meth c ls hx hb hr hts hown hlk hml hnm hP hK hN hX hS hl => ?_)
  have htl : ∀ w ∈ LW, w.before _ s = true := fun w h => hts w (List.mem_cons_of_mem _ h)
  have hown : s.vm.findClass "PacketGate$RuleBook" = some m.cls := hown
  have hl : lv_has ls 1 [(0, .ref tb)] := hl
  refine lv_aload_n hx hb d_Rb_addSpare_0 rfl (lv_at hl 0 rfl) ?_
  refine lv_dup hx hb d_Rb_addSpare_1 rfl ?_
  refine gm_get (C := R_Rb) (T := F_Rb) (n := 2) hx hb htl i_Rb hown hK hP e1 rfl 1 (by decide) (htl _ k_87) (fun _ h => h) rfl d_Rb_addSpare_2 ?_
  refine lv_iconst (v := nI 1) hx hb d_Rb_addSpare_5 (by decide) ?_
  refine lv_iadd hx hb d_Rb_addSpare_6 ?_
  rw [show (nI n) + (nI 1) = nI (n + 1) from nI_add _ _]
  refine gm_put (C := R_Rb) (T := F_Rb) (n := 2) (ty := .int) hx hb htl i_Rb t_Rb tk_Rb n_Rb hown hK hP hS e1 rfl 1 (by decide) (htl _ k_87) (fun _ h => h) rfl (tk_Rb 1 (by decide)) rfl rfl (Nat.le_of_ble_eq_true rfl) d_Rb_addSpare_7 (fun H locs hP hS => ?_)
  have hP : gm_P D cls A N (gm_up M tb (.inr (6, [.ref rr, .int (nI (n + 1))]))) H := hP
  have h_1 := gm_up_self M tb (.inr (6, [.ref rr, .int (nI (n + 1))]))
  refine lv_aload_n hx hb d_Rb_addSpare_10 rfl (lv_at hl 0 rfl) ?_
  refine gm_get (C := R_Rb) (T := F_Rb) (n := 2) hx hb htl i_Rb hown hK hP h_1 rfl 1 (by decide) (htl _ k_87) (fun _ h => h) rfl d_Rb_addSpare_11 ?_
  exact gc_iret hx hb hr hlk hP hS d_Rb_addSpare_14 ⟨rfl, rfl, rfl⟩
set_option maxHeartbeats 4000000 in
set_option maxRecDepth 100000 in
theorem c_Rb_policy {tb rr n : Nat} {ra : Nat → Nat} {ru lw hw : Nat → Nat → Nat} {d0 pr s0 t0 : Nat} (e1 : M tb = some (.inr (6, [.ref rr, .int (nI n)]))) (e2 : M rr = some (.inl (ca 2, 17, .inr (.inr (.inr (.inr (oF ra))))))) (hr1 : ∀ fi, fi < n → M (ra fi) = some (.inr (5, [.int (nI (ru fi 0)), .int (nI (ru fi 1)), .int (nI (ru fi 2)), .ref (ra fi + 1), .ref (ra fi + 2)]))) (hr2 : ∀ fi, fi < 17 → M (ra fi + 1) = some (.inl (ca 0, 3, .inl (iN (lw fi))))) (hr3 : ∀ fi, fi < 17 → M (ra fi + 2) = some (.inl (ca 0, 3, .inl (iN (hw fi))))) (hn : n ≤ 16) (hU : okU n ru lw hw) (hd0 : d0 < 65536) (hpr : pr < 65536) (hs0 : s0 < 65536) (ht0 : t0 < 65536) : gC l D ca A G y_Rb_policy (.code y_Rb_policy b_Rb_policy 6 (some .int)) ({ frames := 2, cells := 0, slots := 0, locals := 46 }) N M [.ref tb, .int (nI d0), .int (nI pr), .int (nI s0), .int (nI t0)] gm_i (fun (r : Int32) (N1 : Nat) (M1 : gm_M) => N = N1 ∧ ∃ (a : Nat), (pol ru lw hw n d0 pr s0 t0 a) ∧ (a < 3) ∧ M = M1 ∧ nI a = r) := by
  refine gm_body (by decide) (Nat.le_of_ble_eq_true rfl) (fun p e s m below meth c ls hx hb hr hts hown hlk hml hnm hP hK hN hX hS hl => ?_)
  have htl : ∀ w ∈ LW, w.before _ s = true := fun w h => hts w (List.mem_cons_of_mem _ h)
  have hown : s.vm.findClass "PacketGate$RuleBook" = some m.cls := hown
  have hl : lv_has ls 6 [(0, .ref tb), (1, .int (nI d0)), (2, .int (nI pr)), (3, .int (nI s0)), (4, .int (nI t0))] := hl
  generalize hQ : MQ below _ _ s _ _ A = Q
  refine lv_iconst (v := nI 0) hx hb d_Rb_policy_0 (by decide) ?_
  refine lv_istore (lv' := [(5, .int (nI 0)), (0, .ref tb), (1, .int (nI d0)), (2, .int (nI pr)), (3, .int (nI s0)), (4, .int (nI t0))]) hx hb d_Rb_policy_1 hl (by decide) rfl (fun ls hl => ?_)
  have loop_3 : ∀ (fu : Nat) (i : Nat) (ls : Array Slot) (H : Heap) (locs : List Loc), (i ≤ n) → (∀ j, j < i → ¬ (mat (ru j 1) (ru j 2) (lw j) (hw j) d0 pr s0 t0)) → (n - i) < fu → gm_P D cls A N M H → va_S A s.heap H locs → lv_has ls 6 [(0, .ref tb), (1, .int (nI d0)), (2, .int (nI pr)), (3, .int (nI s0)), (4, .int (nI t0)), (5, .int (nI i))] → W p l e ({ frames := 2, cells := 0, slots := 0, locals := 46 }) s m ([.ref tb, .int (nI d0), .int (nI pr), .int (nI s0), .int (nI t0)] : List Value).toArray below meth c H locs (0) (0) Q (F0 m 3 ls []) := by
    intro fu
    induction fu with
    | zero => intro i ls H locs hi hno hk; exact absurd hk (Nat.not_lt_zero _)
    | succ fu ih_3 =>
      intro i ls H locs hi hno hk hP hS hl
      refine lv_iload hx hb d_Rb_policy_3 (lv_at hl 5 rfl) ?_
      refine lv_aload_n hx hb d_Rb_policy_5 rfl (lv_at hl 0 rfl) ?_
      refine gm_get (C := R_Rb) (T := F_Rb) (n := 2) hx hb htl i_Rb hown hK hP e1 rfl 1 (by decide) (htl _ k_87) (fun _ h => h) rfl d_Rb_policy_6 ?_
      refine ln_ge (tgt := 47) hx hb d_Rb_policy_9 (by decide) (by omega) (by omega) (fun c_1 => ?_) (fun c_1 => ?_)
      · skip
        refine lv_iconst (v := nI 1) hx hb d_Rb_policy_47 (by decide) ?_
        rw [← hQ]
        exact gc_iret hx hb hr hlk hP hS d_Rb_policy_48 ⟨rfl, 1, Or.inr ⟨fun j hj => hno j (by omega), rfl⟩, by decide, rfl, rfl⟩
      · skip
        refine lv_aload_n hx hb d_Rb_policy_12 rfl (lv_at hl 0 rfl) ?_
        refine gm_get (C := R_Rb) (T := F_Rb) (n := 2) hx hb htl i_Rb hown hK hP e1 rfl 0 (by decide) (htl _ k_86) (fun _ h => h) rfl d_Rb_policy_13 ?_
        refine lv_iload hx hb d_Rb_policy_16 (lv_at hl 5 rfl) ?_
        refine gn_aald hx hb hK hP 2 e2 rfl (by omega) (by omega) rfl d_Rb_policy_18 ?_
        refine lv_iload_n hx hb d_Rb_policy_19 rfl (lv_at hl 1 rfl) ?_
        refine lv_iload_n hx hb d_Rb_policy_20 rfl (lv_at hl 2 rfl) ?_
        refine lv_iload_n hx hb d_Rb_policy_21 rfl (lv_at hl 3 rfl) ?_
        refine lv_iload hx hb d_Rb_policy_22 (lv_at hl 4 rfl) ?_
        refine gc_V (q := (R_Ru, F_Ru, 5)) (n := 4) [.int (nI d0), .int (nI pr), .int (nI s0), .int (nI t0)] [] hx hb hml hown hts hK hN hX hP hS (c_Ru_matches (hr1 i (by omega)) (hr2 i (by omega)) (hr3 i (by omega)) (fun q => (hU.2 i q).1) (fun q => (hU.2 i q).2) ((hU.1 i (by omega)).1) ((hU.1 i (by omega)).2.1) ((hU.1 i (by omega)).2.2) (by omega) (by omega) (by omega) (by omega)) rfl (hr1 i (by omega)) k_612 k_613 k_614 k_5 k_615 (by decide +kernel) ⟨by decide, by decide⟩ rfl hl.1 rfl (Nat.le_of_ble_eq_true rfl) d_Rb_policy_24 ⟨by decide, by decide⟩ (fun r N1 M_2 H locs hw hP hS => ?_)
        obtain ⟨rfl, hw⟩ := hw
        rcases hw with ⟨c_3, rfl, rfl⟩ | ⟨c_4, rfl, rfl⟩
        · skip
          refine W.eq (g2 := F0 m 27 ls [.int (nI 1)]) rfl ?_
          refine lv_if_eq (tgt := 41) hx hb d_Rb_policy_27 (by decide) (fun q => absurd q (by decide)) (fun _ => ?_)
          refine lv_aload_n hx hb d_Rb_policy_30 rfl (lv_at hl 0 rfl) ?_
          refine gm_get (C := R_Rb) (T := F_Rb) (n := 2) hx hb htl i_Rb hown hK hP e1 rfl 0 (by decide) (htl _ k_86) (fun _ h => h) rfl d_Rb_policy_31 ?_
          refine lv_iload hx hb d_Rb_policy_34 (lv_at hl 5 rfl) ?_
          refine gn_aald hx hb hK hP 2 e2 rfl (by omega) (by omega) rfl d_Rb_policy_36 ?_
          refine gm_get (C := R_Ru) (T := F_Ru) (n := 5) hx hb htl i_Ru hown hK hP (hr1 i (by omega)) rfl 0 (by decide) (htl _ k_67) (fun _ h => h) rfl d_Rb_policy_37 ?_
          rw [← hQ]
          exact gc_iret hx hb hr hlk hP hS d_Rb_policy_40 ⟨rfl, _, Or.inl ⟨i, by omega, by assumption, hno, rfl⟩, (hU.1 i (by omega)).1, rfl, rfl⟩
        · skip
          refine W.eq (g2 := F0 m 27 ls [.int (nI 0)]) rfl ?_
          refine lv_if_eq (tgt := 41) hx hb d_Rb_policy_27 (by decide) (fun _ => ?_) (fun q => absurd q (by decide))
          refine lv_iinc (v := nI (i + 1)) (lv' := [(5, .int (nI (i + 1))), (0, .ref tb), (1, .int (nI d0)), (2, .int (nI pr)), (3, .int (nI s0)), (4, .int (nI t0))]) hx hb d_Rb_policy_41 hl (k := 5) rfl (nI_1 i) (by decide) rfl (fun ls hl => ?_)
          refine lv_goto (tgt := 3) hx hb d_Rb_policy_44 (by decide) ?_
          exact ih_3 (i + 1) ls _ _ (by omega) (fun j hj => by rcases Nat.lt_succ_iff_lt_or_eq.mp hj with z | z; exact hno j z; subst z; assumption) (by omega) hP hS (lv_sub hl [1, 2, 3, 4, 5, 0] rfl)
  exact loop_3 (_ + 1) 0 ls _ _ (Nat.zero_le _) (fun j hj => absurd hj (Nat.not_lt_zero _)) (Nat.lt_succ_self _) hP hS (lv_sub hl [1, 2, 3, 4, 5, 0] rfl)
set_option maxHeartbeats 4000000 in
set_option maxRecDepth 100000 in
theorem c_Rb_remove {tb rr n : Nat} {ra : Nat → Nat} {ru lw hw : Nat → Nat → Nat} {k : Nat} (e1 : M tb = some (.inr (6, [.ref rr, .int (nI n)]))) (e2 : M rr = some (.inl (ca 2, 17, .inr (.inr (.inr (.inr (oF ra))))))) (hr1 : ∀ fi, fi < n → M (ra fi) = some (.inr (5, [.int (nI (ru fi 0)), .int (nI (ru fi 1)), .int (nI (ru fi 2)), .ref (ra fi + 1), .ref (ra fi + 2)]))) (hr2 : ∀ fi, fi < 17 → M (ra fi + 1) = some (.inl (ca 0, 3, .inl (iN (lw fi))))) (hr3 : ∀ fi, fi < 17 → M (ra fi + 2) = some (.inl (ca 0, 3, .inl (iN (hw fi))))) (hn : n ≤ 16) (hU : okU n ru lw hw) (hk : k < n) : gC l D ca A G y_Rb_remove (.code y_Rb_remove b_Rb_remove 4 none) ({ frames := 0, cells := 0, slots := 0, locals := 0 }) N M [.ref tb, .int (nI (k + 1))] gm_v (fun (_ : Unit) (N1 : Nat) (M1 : gm_M) => N = N1 ∧ gm_up (gm_up M rr (.inl (ca 2, 17, .inr (.inr (.inr (.inr (oF (rot ra k n)))))))) tb (.inr (6, [.ref rr, .int (nI (n - 1))])) = M1) := by
  refine gm_body (by decide) (Nat.le_of_ble_eq_true rfl) (fun p e s m below meth c ls hx hb hr hts hown hlk hml hnm hP hK hN hX hS hl => ?_)
  have htl : ∀ w ∈ LW, w.before _ s = true := fun w h => hts w (List.mem_cons_of_mem _ h)
  have hown : s.vm.findClass "PacketGate$RuleBook" = some m.cls := hown
  have hl : lv_has ls 4 [(0, .ref tb), (1, .int (nI (k + 1)))] := hl
  generalize hQ : MQ below _ _ s _ _ A = Q
  refine lv_aload_n hx hb d_Rb_remove_0 rfl (lv_at hl 0 rfl) ?_
  refine gm_get (C := R_Rb) (T := F_Rb) (n := 2) hx hb htl i_Rb hown hK hP e1 rfl 0 (by decide) (htl _ k_86) (fun _ h => h) rfl d_Rb_remove_1 ?_
  refine lv_iload_n hx hb d_Rb_remove_4 rfl (lv_at hl 1 rfl) ?_
  refine lv_iconst (v := nI 1) hx hb d_Rb_remove_5 (by decide) ?_
  refine lv_isub hx hb d_Rb_remove_6 ?_
  rw [show (nI (k + 1)) - (nI 1) = nI k from pk_sub (by omega)]
  refine gn_aald hx hb hK hP 2 e2 rfl (by omega) (by omega) rfl d_Rb_remove_7 ?_
  refine lv_astore_n (lv' := [(2, .ref (ra k)), (0, .ref tb), (1, .int (nI (k + 1)))]) hx hb d_Rb_remove_8 rfl hl (by decide) rfl (fun ls hl => ?_)
  refine lv_iload_n hx hb d_Rb_remove_9 rfl (lv_at hl 2 rfl) ?_
  refine lv_istore_n (lv' := [(3, .int (nI (k + 1))), (2, .ref (ra k)), (0, .ref tb), (1, .int (nI (k + 1)))]) hx hb d_Rb_remove_10 rfl hl (by decide) rfl (fun ls hl => ?_)
  have loop_11 : ∀ (fu : Nat) (j : Nat) (ls : Array Slot) (H : Heap) (locs : List Loc), (k ≤ j ∧ j + 1 ≤ n) → (n - j) < fu → gm_P D cls A N (gm_up M rr (.inl (ca 2, 17, .inr (.inr (.inr (.inr (oF (shf ra k j)))))))) H → va_S A s.heap H locs → lv_has ls 4 [(0, .ref tb), (2, .ref (ra k)), (3, .int (nI (j + 1)))] → W p l e ({ frames := 0, cells := 0, slots := 0, locals := 0 }) s m ([.ref tb, .int (nI (k + 1))] : List Value).toArray below meth c H locs (0) (0) Q (F0 m 11 ls []) := by
    intro fu
    induction fu with
    | zero => intro j ls H locs hj hk; exact absurd hk (Nat.not_lt_zero _)
    | succ fu ih_11 =>
      intro j ls H locs hj hk hP hS hl
      have h_1 := gm_pass (k := rr) (y := .inl (ca 2, 17, .inr (.inr (.inr (.inr (oF (shf ra k j))))))) e1 (gm_ne e1 e2 (fun h => by cases h))
      have h_2 := gm_up_self M rr (.inl (ca 2, 17, .inr (.inr (.inr (.inr (oF (shf ra k j)))))))
      have hf_3 : ∀ fi, fi < n → (gm_up M rr (.inl (ca 2, 17, .inr (.inr (.inr (.inr (oF (shf ra k j)))))))) (ra fi) = some (.inr (5, [.int (nI (ru fi 0)), .int (nI (ru fi 1)), .int (nI (ru fi 2)), .ref (ra fi + 1), .ref (ra fi + 2)])) := fun fi hfi => gm_pass (k := rr) (y := .inl (ca 2, 17, .inr (.inr (.inr (.inr (oF (shf ra k j))))))) (hr1 fi hfi) (gm_ne (hr1 fi hfi) e2 (fun h => by cases h))
      have hf_4 : ∀ fi, fi < 17 → (gm_up M rr (.inl (ca 2, 17, .inr (.inr (.inr (.inr (oF (shf ra k j)))))))) (ra fi + 1) = some (.inl (ca 0, 3, .inl (iN (lw fi)))) := fun fi hfi => gm_pass (k := rr) (y := .inl (ca 2, 17, .inr (.inr (.inr (.inr (oF (shf ra k j))))))) (hr2 fi hfi) (gm_ne (hr2 fi hfi) e2 (fun h => by simp at h))
      have hf_5 : ∀ fi, fi < 17 → (gm_up M rr (.inl (ca 2, 17, .inr (.inr (.inr (.inr (oF (shf ra k j)))))))) (ra fi + 2) = some (.inl (ca 0, 3, .inl (iN (hw fi)))) := fun fi hfi => gm_pass (k := rr) (y := .inl (ca 2, 17, .inr (.inr (.inr (.inr (oF (shf ra k j))))))) (hr3 fi hfi) (gm_ne (hr3 fi hfi) e2 (fun h => by simp at h))
      refine lv_iload_n hx hb d_Rb_remove_11 rfl (lv_at hl 2 rfl) ?_
      refine lv_aload_n hx hb d_Rb_remove_12 rfl (lv_at hl 0 rfl) ?_
      refine gm_get (C := R_Rb) (T := F_Rb) (n := 2) hx hb htl i_Rb hown hK hP h_1 rfl 1 (by decide) (htl _ k_87) (fun _ h => h) rfl d_Rb_remove_13 ?_
      refine ln_ge (tgt := 39) hx hb d_Rb_remove_16 (by decide) (by omega) (by omega) (fun c_6 => ?_) (fun c_6 => ?_)
      · skip
        refine lv_aload_n hx hb d_Rb_remove_39 rfl (lv_at hl 0 rfl) ?_
        refine gm_get (C := R_Rb) (T := F_Rb) (n := 2) hx hb htl i_Rb hown hK hP h_1 rfl 0 (by decide) (htl _ k_86) (fun _ h => h) rfl d_Rb_remove_40 ?_
        refine lv_aload_n hx hb d_Rb_remove_43 rfl (lv_at hl 0 rfl) ?_
        refine gm_get (C := R_Rb) (T := F_Rb) (n := 2) hx hb htl i_Rb hown hK hP h_1 rfl 1 (by decide) (htl _ k_87) (fun _ h => h) rfl d_Rb_remove_44 ?_
        refine lv_iconst (v := nI 1) hx hb d_Rb_remove_47 (by decide) ?_
        refine lv_isub hx hb d_Rb_remove_48 ?_
        rw [show (nI n) - (nI 1) = nI (n - 1) from pk_sub (by omega)]
        refine lv_aload_n hx hb d_Rb_remove_49 rfl (lv_at hl 1 rfl) ?_
        refine gz_aast hx hb hK hP hS 2 5 h_2 rfl (hf_3 k (by omega)) rfl (by omega) (by omega) d_Rb_remove_50 (fun H locs hP hS => ?_)
        have he_7 : gm_up (gm_up M rr (.inl (ca 2, 17, .inr (.inr (.inr (.inr (oF (shf ra k j)))))))) rr (.inl (ca 2, 17, .inr (.inr (.inr (.inr (oF (va_up (shf ra k j) (n - 1) (ra k)))))))) = gm_up M rr (.inl (ca 2, 17, .inr (.inr (.inr (.inr (oF (va_up (shf ra k j) (n - 1) (ra k)))))))) := gm_up_up _ _ _ _
        have hP := Eq.mp (congrArg (fun Z => gm_P D cls A N Z H) he_7) hP
        have h_8 := (congrFun he_7 _).symm.trans (gm_pass (k := rr) (y := .inl (ca 2, 17, .inr (.inr (.inr (.inr (oF (va_up (shf ra k j) (n - 1) (ra k)))))))) h_1 (gm_ne h_1 h_2 (fun h => by cases h)))
        have h_9 := (congrFun he_7 _).symm.trans (gm_up_self (gm_up M rr (.inl (ca 2, 17, .inr (.inr (.inr (.inr (oF (shf ra k j)))))))) rr (.inl (ca 2, 17, .inr (.inr (.inr (.inr (oF (va_up (shf ra k j) (n - 1) (ra k)))))))))
        have hf_10 : ∀ fi, fi < n → (gm_up M rr (.inl (ca 2, 17, .inr (.inr (.inr (.inr (oF (va_up (shf ra k j) (n - 1) (ra k))))))))) (ra fi) = some (.inr (5, [.int (nI (ru fi 0)), .int (nI (ru fi 1)), .int (nI (ru fi 2)), .ref (ra fi + 1), .ref (ra fi + 2)])) := fun fi hfi => (congrFun he_7 _).symm.trans (gm_pass (k := rr) (y := .inl (ca 2, 17, .inr (.inr (.inr (.inr (oF (va_up (shf ra k j) (n - 1) (ra k)))))))) (hf_3 fi hfi) (gm_ne (hf_3 fi hfi) h_2 (fun h => by cases h)))
        have hf_11 : ∀ fi, fi < 17 → (gm_up M rr (.inl (ca 2, 17, .inr (.inr (.inr (.inr (oF (va_up (shf ra k j) (n - 1) (ra k))))))))) (ra fi + 1) = some (.inl (ca 0, 3, .inl (iN (lw fi)))) := fun fi hfi => (congrFun he_7 _).symm.trans (gm_pass (k := rr) (y := .inl (ca 2, 17, .inr (.inr (.inr (.inr (oF (va_up (shf ra k j) (n - 1) (ra k)))))))) (hf_4 fi hfi) (gm_ne (hf_4 fi hfi) h_2 (fun h => by simp at h)))
        have hf_12 : ∀ fi, fi < 17 → (gm_up M rr (.inl (ca 2, 17, .inr (.inr (.inr (.inr (oF (va_up (shf ra k j) (n - 1) (ra k))))))))) (ra fi + 2) = some (.inl (ca 0, 3, .inl (iN (hw fi)))) := fun fi hfi => (congrFun he_7 _).symm.trans (gm_pass (k := rr) (y := .inl (ca 2, 17, .inr (.inr (.inr (.inr (oF (va_up (shf ra k j) (n - 1) (ra k)))))))) (hf_5 fi hfi) (gm_ne (hf_5 fi hfi) h_2 (fun h => by simp at h)))
        refine lv_aload_n hx hb d_Rb_remove_51 rfl (lv_at hl 0 rfl) ?_
        refine lv_dup hx hb d_Rb_remove_52 rfl ?_
        refine gm_get (C := R_Rb) (T := F_Rb) (n := 2) hx hb htl i_Rb hown hK hP h_8 rfl 1 (by decide) (htl _ k_87) (fun _ h => h) rfl d_Rb_remove_53 ?_
        refine lv_iconst (v := nI 1) hx hb d_Rb_remove_56 (by decide) ?_
        refine lv_isub hx hb d_Rb_remove_57 ?_
        rw [show (nI n) - (nI 1) = nI (n - 1) from pk_sub (by omega)]
        refine gm_put (C := R_Rb) (T := F_Rb) (n := 2) (ty := .int) hx hb htl i_Rb t_Rb tk_Rb n_Rb hown hK hP hS h_8 rfl 1 (by decide) (htl _ k_87) (fun _ h => h) rfl (tk_Rb 1 (by decide)) rfl rfl (Nat.le_of_ble_eq_true rfl) d_Rb_remove_58 (fun H locs hP hS => ?_)
        have hP : gm_P D cls A N (gm_up (gm_up M rr (.inl (ca 2, 17, .inr (.inr (.inr (.inr (oF (va_up (shf ra k j) (n - 1) (ra k))))))))) tb (.inr (6, [.ref rr, .int (nI (n - 1))]))) H := hP
        have h_13 := gm_pass (k := tb) (y := .inr (6, [.ref rr, .int (nI (n - 1))])) h_9 (gm_ne h_9 h_8 (fun h => by cases h))
        have h_14 := gm_up_self (gm_up M rr (.inl (ca 2, 17, .inr (.inr (.inr (.inr (oF (va_up (shf ra k j) (n - 1) (ra k))))))))) tb (.inr (6, [.ref rr, .int (nI (n - 1))]))
        have hf_15 : ∀ fi, fi < n → (gm_up (gm_up M rr (.inl (ca 2, 17, .inr (.inr (.inr (.inr (oF (va_up (shf ra k j) (n - 1) (ra k))))))))) tb (.inr (6, [.ref rr, .int (nI (n - 1))]))) (ra fi) = some (.inr (5, [.int (nI (ru fi 0)), .int (nI (ru fi 1)), .int (nI (ru fi 2)), .ref (ra fi + 1), .ref (ra fi + 2)])) := fun fi hfi => gm_pass (k := tb) (y := .inr (6, [.ref rr, .int (nI (n - 1))])) (hf_10 fi hfi) (gm_ne (hf_10 fi hfi) h_8 (fun h => by cases h))
        have hf_16 : ∀ fi, fi < 17 → (gm_up (gm_up M rr (.inl (ca 2, 17, .inr (.inr (.inr (.inr (oF (va_up (shf ra k j) (n - 1) (ra k))))))))) tb (.inr (6, [.ref rr, .int (nI (n - 1))]))) (ra fi + 1) = some (.inl (ca 0, 3, .inl (iN (lw fi)))) := fun fi hfi => gm_pass (k := tb) (y := .inr (6, [.ref rr, .int (nI (n - 1))])) (hf_11 fi hfi) (gm_ne (hf_11 fi hfi) h_8 (fun h => by cases h))
        have hf_17 : ∀ fi, fi < 17 → (gm_up (gm_up M rr (.inl (ca 2, 17, .inr (.inr (.inr (.inr (oF (va_up (shf ra k j) (n - 1) (ra k))))))))) tb (.inr (6, [.ref rr, .int (nI (n - 1))]))) (ra fi + 2) = some (.inl (ca 0, 3, .inl (iN (hw fi)))) := fun fi hfi => gm_pass (k := tb) (y := .inr (6, [.ref rr, .int (nI (n - 1))])) (hf_12 fi hfi) (gm_ne (hf_12 fi hfi) h_8 (fun h => by cases h))
        rw [← hQ]
        exact gc_vret hx hb hr hlk hP hS d_Rb_remove_61 ⟨rfl, (by rw [show j = n - 1 from (by omega), rot_of (by omega)])⟩
      · skip
        refine lv_aload_n hx hb d_Rb_remove_19 rfl (lv_at hl 0 rfl) ?_
        refine gm_get (C := R_Rb) (T := F_Rb) (n := 2) hx hb htl i_Rb hown hK hP h_1 rfl 0 (by decide) (htl _ k_86) (fun _ h => h) rfl d_Rb_remove_20 ?_
        refine lv_iload_n hx hb d_Rb_remove_23 rfl (lv_at hl 2 rfl) ?_
        refine lv_iconst (v := nI 1) hx hb d_Rb_remove_24 (by decide) ?_
        refine lv_isub hx hb d_Rb_remove_25 ?_
        rw [show (nI (j + 1)) - (nI 1) = nI j from pk_sub (by omega)]
        refine lv_aload_n hx hb d_Rb_remove_26 rfl (lv_at hl 0 rfl) ?_
        refine gm_get (C := R_Rb) (T := F_Rb) (n := 2) hx hb htl i_Rb hown hK hP h_1 rfl 0 (by decide) (htl _ k_86) (fun _ h => h) rfl d_Rb_remove_27 ?_
        refine lv_iload_n hx hb d_Rb_remove_30 rfl (lv_at hl 2 rfl) ?_
        refine gn_aald hx hb hK hP 2 h_2 rfl (by omega) (by omega) (congrArg some (shf_at (by omega))) d_Rb_remove_31 ?_
        refine gz_aast hx hb hK hP hS 2 5 h_2 rfl (hf_3 (j + 1) (by omega)) rfl (by omega) (by omega) d_Rb_remove_32 (fun H locs hP hS => ?_)
        have he_18 : gm_up (gm_up M rr (.inl (ca 2, 17, .inr (.inr (.inr (.inr (oF (shf ra k j)))))))) rr (.inl (ca 2, 17, .inr (.inr (.inr (.inr (oF (va_up (shf ra k j) j (ra (j + 1))))))))) = gm_up M rr (.inl (ca 2, 17, .inr (.inr (.inr (.inr (oF (va_up (shf ra k j) j (ra (j + 1))))))))) := gm_up_up _ _ _ _
        have hP := Eq.mp (congrArg (fun Z => gm_P D cls A N Z H) he_18) hP
        have h_19 := (congrFun he_18 _).symm.trans (gm_pass (k := rr) (y := .inl (ca 2, 17, .inr (.inr (.inr (.inr (oF (va_up (shf ra k j) j (ra (j + 1))))))))) h_1 (gm_ne h_1 h_2 (fun h => by cases h)))
        have h_20 := (congrFun he_18 _).symm.trans (gm_up_self (gm_up M rr (.inl (ca 2, 17, .inr (.inr (.inr (.inr (oF (shf ra k j)))))))) rr (.inl (ca 2, 17, .inr (.inr (.inr (.inr (oF (va_up (shf ra k j) j (ra (j + 1))))))))))
        have hf_21 : ∀ fi, fi < n → (gm_up M rr (.inl (ca 2, 17, .inr (.inr (.inr (.inr (oF (va_up (shf ra k j) j (ra (j + 1)))))))))) (ra fi) = some (.inr (5, [.int (nI (ru fi 0)), .int (nI (ru fi 1)), .int (nI (ru fi 2)), .ref (ra fi + 1), .ref (ra fi + 2)])) := fun fi hfi => (congrFun he_18 _).symm.trans (gm_pass (k := rr) (y := .inl (ca 2, 17, .inr (.inr (.inr (.inr (oF (va_up (shf ra k j) j (ra (j + 1))))))))) (hf_3 fi hfi) (gm_ne (hf_3 fi hfi) h_2 (fun h => by cases h)))
        have hf_22 : ∀ fi, fi < 17 → (gm_up M rr (.inl (ca 2, 17, .inr (.inr (.inr (.inr (oF (va_up (shf ra k j) j (ra (j + 1)))))))))) (ra fi + 1) = some (.inl (ca 0, 3, .inl (iN (lw fi)))) := fun fi hfi => (congrFun he_18 _).symm.trans (gm_pass (k := rr) (y := .inl (ca 2, 17, .inr (.inr (.inr (.inr (oF (va_up (shf ra k j) j (ra (j + 1))))))))) (hf_4 fi hfi) (gm_ne (hf_4 fi hfi) h_2 (fun h => by simp at h)))
        have hf_23 : ∀ fi, fi < 17 → (gm_up M rr (.inl (ca 2, 17, .inr (.inr (.inr (.inr (oF (va_up (shf ra k j) j (ra (j + 1)))))))))) (ra fi + 2) = some (.inl (ca 0, 3, .inl (iN (hw fi)))) := fun fi hfi => (congrFun he_18 _).symm.trans (gm_pass (k := rr) (y := .inl (ca 2, 17, .inr (.inr (.inr (.inr (oF (va_up (shf ra k j) j (ra (j + 1))))))))) (hf_5 fi hfi) (gm_ne (hf_5 fi hfi) h_2 (fun h => by simp at h)))
        refine lv_iinc (v := nI (j + 1 + 1)) (lv' := [(3, .int (nI (j + 1 + 1))), (0, .ref tb), (2, .ref (ra k))]) hx hb d_Rb_remove_33 hl (k := 2) rfl (nI_1 (j + 1)) (by decide) rfl (fun ls hl => ?_)
        refine lv_goto (tgt := 11) hx hb d_Rb_remove_36 (by decide) ?_
        exact ih_11 (j + 1) ls _ _ (⟨by omega, by omega⟩) (by omega) (by rw [← shf_s hj.1]; exact hP) hS (lv_sub hl [1, 2, 0] rfl)
  exact loop_11 (_ + 1) k ls _ _ (⟨Nat.le_refl _, by omega⟩) (Nat.lt_succ_self _) (by rw [shf_0, gm_fix e2]; exact hP) hS (lv_sub hl [2, 1, 0] rfl)
end C17
