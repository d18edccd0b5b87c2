section C14
variable {l : Launch} {D : va_G} {ca : Nat → ClassId} {A : Nat → Prop} {G : gG} {N : Nat} {M : gm_M}

/-- one less, down to -1 -/
def dn (j : Nat) : Int32 := nI j - nI 1
theorem dn_0 : dn 0 = (-1) := by decide
theorem dn_s (j : Nat) : dn (j + 1) = nI j := pk_sub (by omega)
theorem dn_inc (j : Nat) : nI j + Int32.ofInt (-1) = dn j := by unfold dn; rw [Int32.sub_eq_add_neg]; rfl
def shf {α : Type} (a : Nat → α) (k j : Nat) : Nat → α := fun i => if k ≤ i ∧ i < j then a (i + 1) else a i
/-- row k goes behind the others of the first n -/
def rot {α : Type} (a : Nat → α) (k n : Nat) : Nat → α := fun i => if i = n - 1 then a k else if k ≤ i ∧ i < n - 1 then a (i + 1) else a i
theorem shf_0 {α : Type} (a : Nat → α) (k : Nat) : shf a k k = a := by
  funext i; unfold shf; rw [if_neg (by omega)]
theorem shf_at {α : Type} {a : Nat → α} {k j i : Nat} (h : j ≤ i) : shf a k j i = a i := by unfold shf; rw [if_neg (by omega)]
theorem shf_s {α : Type} {a : Nat → α} {k j : Nat} (h : k ≤ j) : va_up (shf a k j) j (a (j + 1)) = shf a k (j + 1) := by
  funext i
  by_cases q : i = j
  · subst q; rw [va_up_self]; unfold shf; rw [if_pos (by omega)]
  · rw [va_up_ne _ _ q]; unfold shf
    by_cases z : k ≤ i ∧ i < j
    · rw [if_pos z, if_pos (by omega)]
    · rw [if_neg z, if_neg (by omega)]
theorem rot_of {α : Type} {a : Nat → α} {k n : Nat} (h : k < n) : va_up (shf a k (n - 1)) (n - 1) (a k) = rot a k n := by
  funext i
  by_cases q : i = n - 1
  · subst q; rw [va_up_self]; unfold rot; rw [if_pos rfl]
  · rw [va_up_ne _ _ q]; unfold rot shf; rw [if_neg q]
/-- which row comes to place i -/
def rotx (k n i : Nat) : Nat := if i = n - 1 then k else if k ≤ i ∧ i < n - 1 then i + 1 else i
theorem rot_x {α : Type} (a : Nat → α) (k n i : Nat) : rot a k n i = a (rotx k n i) := by
  unfold rot rotx; split
  · rfl
  · split <;> rfl
theorem rotx_lt {k n i : Nat} (hk : k < n) (hn : n ≤ 16) (hi : i < 16) : rotx k n i < 16 := by unfold rotx; split <;> (try split) <;> omega
theorem rotx_inj {k n i j : Nat} (hk : k < n) (h : rotx k n i = rotx k n j) : i = j := by
  unfold rotx at h; split at h <;> (try split at h) <;> (try split at h) <;> (try split at h) <;> omega
/-- sixteen addresses, apart, from lo on -/
def okA (lo : Nat) (fa : Nat → Nat) : Prop := (∀ i, i < 16 → lo ≤ fa i ∧ fa i < lo + 16) ∧ ∀ i j, i < 16 → j < 16 → fa i = fa j → i = j
theorem okA_rot {lo k n : Nat} {fa : Nat → Nat} (h : okA lo fa) (hk : k < n) (hn : n ≤ 16) : okA lo (rot fa k n) :=
  ⟨fun i hi => by rw [rot_x]; exact h.1 _ (rotx_lt hk hn hi), fun i j hi hj q => by rw [rot_x, rot_x] at q; exact rotx_inj hk (h.2 _ _ (rotx_lt hk hn hi) (rotx_lt hk hn hj) q)⟩
/-- what the rows of flows hold: protocol, inside, outside, port, state, last, opener, closer -/
def okF (fl : Nat → Nat → Nat) : Prop := ∀ i, (∀ q, fl i q < 1000000) ∧ fl i 0 ≤ 2 ∧ fl i 1 < 65536 ∧ fl i 2 < 65536 ∧ fl i 4 ≤ 7 ∧ fl i 6 ≤ 1 ∧ fl i 7 ≤ 1
theorem okF_rot {k n : Nat} {fl : Nat → Nat → Nat} (h : okF fl) : okF (rot fl k n) := fun i => by rw [rot_x]; exact h _
theorem fam_rot {M : gm_M} {fa : Nat → Nat} {fl : Nat → Nat → Nat} {k n : Nat} (h : ∀ i, i < 16 → M (fa i) = some (.inr (2, [.int (nI (fl i 0)), .int (nI (fl i 1)), .int (nI (fl i 2)), .int (nI (fl i 3)), .int (nI (fl i 4)), .int (nI (fl i 5)), .int (nI (fl i 6)), .int (nI (fl i 7))]))) (hk : k < n) (hn : n ≤ 16) : ∀ i, i < 16 → M (rot fa k n i) = some (.inr (2, [.int (nI ((rot fl k n) i 0)), .int (nI ((rot fl k n) i 1)), .int (nI ((rot fl k n) i 2)), .int (nI ((rot fl k n) i 3)), .int (nI ((rot fl k n) i 4)), .int (nI ((rot fl k n) i 5)), .int (nI ((rot fl k n) i 6)), .int (nI ((rot fl k n) i 7))])) := fun i hi => by
  rw [rot_x, rot_x]; exact h _ (rotx_lt hk hn hi)
def sweep (P : (Nat → Nat) → Bool) : Nat → (Nat → Nat → Nat) → Nat → (Nat → Nat → Nat) × Nat
  | 0, fl, n => (fl, n)
  | i + 1, fl, n => if P (fl i) = true then sweep P i (rot fl i n) (n - 1) else sweep P i fl n
def frow (a : Nat → Nat) (st tm cl : Nat) : Nat → Nat := fun q => if q = 4 then st else if q = 5 then tm else if q = 7 then cl else a q
/-- a packet of flow k -/
def flS (fl : Nat → Nat → Nat) (n k b f tm : Nat) : Option ((Nat → Nat → Nat) × Nat) := match stA (fl k 0) (fl k 6) (fl k 7) (fl k 4) b f with
  | none => none
  | some st => if st = 0 then some (rot (va_up fl k (frow (fl k) st tm (if st = 4 ∧ ¬ fl k 4 = 4 then b else fl k 7))) k n, n - 1) else some (va_up fl k (frow (fl k) st tm (if st = 4 ∧ ¬ fl k 4 = 4 then b else fl k 7)), n)
set_option maxHeartbeats 4000000 in
set_option maxRecDepth 100000 in
theorem c_Ft_isFull {tb rr n lo : Nat} {fa : Nat → Nat} {fl : Nat → Nat → Nat} (e1 : M tb = some (.inr (3, [.ref rr, .int (nI n)]))) (e2 : M rr = some (.inl (ca 3, 16, .inr (.inr (.inr (.inr (oF fa))))))) (hf : ∀ fi, fi < 16 → M (fa fi) = some (.inr (2, [.int (nI (fl fi 0)), .int (nI (fl fi 1)), .int (nI (fl fi 2)), .int (nI (fl fi 3)), .int (nI (fl fi 4)), .int (nI (fl fi 5)), .int (nI (fl fi 6)), .int (nI (fl fi 7))]))) (hn : n ≤ 16) (hA : okA lo fa) (hF : okF fl) : gC l D ca A G y_Ft_isFull (.code y_Ft_isFull b_Ft_isFull 1 (some .boolean)) ({ frames := 0, cells := 0, slots := 0, locals := 0 }) N M [.ref tb] gm_i (fun (r : Int32) (N1 : Nat) (M1 : gm_M) => N = N1 ∧ (((n = 16) ∧ M = M1 ∧ nI 1 = r) ∨ ((n < 16) ∧ M = M1 ∧ nI 0 = r))) := by
  refine gm_body (by decide) (Nat.le_of_ble_eq_true rfl) (fun p e s m below meth c ls hx hb hr hts hown hlk hml hnm hP hK hN hX hS hl => ?_)
  have htl : ∀ w ∈ LW, w.before _ s = true := fun w h => hts w (List.mem_cons_of_mem _ h)
  have hown : s.vm.findClass "PacketGate$FlowTable" = some m.cls := hown
  have hl : lv_has ls 1 [(0, .ref tb)] := hl
  refine lv_aload_n hx hb d_Ft_isFull_0 rfl (lv_at hl 0 rfl) ?_
  refine gm_get (C := R_Ft) (T := F_Ft) (n := 2) hx hb htl i_Ft hown hK hP e1 rfl 1 (by decide) (htl _ k_159) (fun _ h => h) rfl d_Ft_isFull_1 ?_
  refine lv_bipush (v := nI 16) hx hb d_Ft_isFull_4 (by decide) ?_
  refine ln_lt (tgt := 13) hx hb d_Ft_isFull_6 (by decide) (by omega) (by omega) (fun c_1 => ?_) (fun c_1 => ?_)
  · skip
    refine lv_iconst (v := nI 0) hx hb d_Ft_isFull_13 (by decide) ?_
    exact gc_zret hx hb hr hlk hP hS d_Ft_isFull_14 rfl (by first | exact ⟨rfl, Or.inl ⟨(by first | assumption | omega), rfl, rfl⟩⟩ | exact ⟨rfl, Or.inr ⟨(by first | assumption | omega), rfl, rfl⟩⟩)
  · skip
    refine lv_iconst (v := nI 1) hx hb d_Ft_isFull_9 (by decide) ?_
    refine lv_goto (tgt := 14) hx hb d_Ft_isFull_10 (by decide) ?_
    exact gc_zret hx hb hr hlk hP hS d_Ft_isFull_14 rfl (by first | exact ⟨rfl, Or.inl ⟨(by first | assumption | omega), rfl, rfl⟩⟩ | exact ⟨rfl, Or.inr ⟨(by first | assumption | omega), rfl, rfl⟩⟩)
set_option maxHeartbeats 4000000 in
set_option maxRecDepth 100000 in
theorem c_Ft_has (y : Int32) {tb rr n lo : Nat} {fa : Nat → Nat} {fl : Nat → Nat → Nat} (e1 : M tb = some (.inr (3, [.ref rr, .int (nI n)]))) (e2 : M rr = some (.inl (ca 3, 16, .inr (.inr (.inr (.inr (oF fa))))))) (hf : ∀ fi, fi < 16 → M (fa fi) = some (.inr (2, [.int (nI (fl fi 0)), .int (nI (fl fi 1)), .int (nI (fl fi 2)), .int (nI (fl fi 3)), .int (nI (fl fi 4)), .int (nI (fl fi 5)), .int (nI (fl fi 6)), .int (nI (fl fi 7))]))) (hn : n ≤ 16) (hA : okA lo fa) (hF : okF fl) : gC l D ca A G y_Ft_has (.code y_Ft_has b_Ft_has 2 (some .boolean)) ({ frames := 0, cells := 0, slots := 0, locals := 0 }) N M [.ref tb, .int y] gm_i (fun (r : Int32) (N1 : Nat) (M1 : gm_M) => N = N1 ∧ (((¬ y < 0 ∧ y < nI n) ∧ M = M1 ∧ nI 1 = r) ∨ ((¬ (¬ y < 0 ∧ y < nI n)) ∧ M = M1 ∧ nI 0 = r))) := by
  refine gm_body (by decide) (Nat.le_of_ble_eq_true rfl) (fun p e s m below meth c ls hx hb hr hts hown hlk hml hnm hP hK hN hX hS hl => ?_)
  have htl : ∀ w ∈ LW, w.before _ s = true := fun w h => hts w (List.mem_cons_of_mem _ h)
  have hown : s.vm.findClass "PacketGate$FlowTable" = some m.cls := hown
  have hl : lv_has ls 2 [(0, .ref tb), (1, .int y)] := hl
  refine lv_iload_n hx hb d_Ft_has_0 rfl (lv_at hl 1 rfl) ?_
  refine lv_if_lt (tgt := 16) hx hb d_Ft_has_1 (by decide) (fun c_1 => ?_) (fun c_1 => ?_)
  · skip
    refine lv_iconst (v := nI 0) hx hb d_Ft_has_16 (by decide) ?_
    exact gc_zret hx hb hr hlk hP hS d_Ft_has_17 rfl (by first | exact ⟨rfl, Or.inl ⟨(by first | exact ⟨by assumption, Int32.not_le.mp (by assumption)⟩), rfl, rfl⟩⟩ | exact ⟨rfl, Or.inr ⟨(by first | exact fun q => q.1 (by assumption) | exact fun q => Int32.not_le.mpr q.2 (by assumption)), rfl, rfl⟩⟩)
  · skip
    refine lv_iload_n hx hb d_Ft_has_4 rfl (lv_at hl 1 rfl) ?_
    refine lv_aload_n hx hb d_Ft_has_5 rfl (lv_at hl 0 rfl) ?_
    refine gm_get (C := R_Ft) (T := F_Ft) (n := 2) hx hb htl i_Ft hown hK hP e1 rfl 1 (by decide) (htl _ k_159) (fun _ h => h) rfl d_Ft_has_6 ?_
    refine lv_icmp_ge (tgt := 16) hx hb d_Ft_has_9 (by decide) (fun c_2 => ?_) (fun c_2 => ?_)
    · skip
      refine lv_iconst (v := nI 0) hx hb d_Ft_has_16 (by decide) ?_
      exact gc_zret hx hb hr hlk hP hS d_Ft_has_17 rfl (by first | exact ⟨rfl, Or.inl ⟨(by first | exact ⟨by assumption, Int32.not_le.mp (by assumption)⟩), rfl, rfl⟩⟩ | exact ⟨rfl, Or.inr ⟨(by first | exact fun q => q.1 (by assumption) | exact fun q => Int32.not_le.mpr q.2 (by assumption)), rfl, rfl⟩⟩)
    · skip
      refine lv_iconst (v := nI 1) hx hb d_Ft_has_12 (by decide) ?_
      refine lv_goto (tgt := 17) hx hb d_Ft_has_13 (by decide) ?_
      exact gc_zret hx hb hr hlk hP hS d_Ft_has_17 rfl (by first | exact ⟨rfl, Or.inl ⟨(by first | exact ⟨by assumption, Int32.not_le.mp (by assumption)⟩), rfl, rfl⟩⟩ | exact ⟨rfl, Or.inr ⟨(by first | exact fun q => q.1 (by assumption) | exact fun q => Int32.not_le.mpr q.2 (by assumption)), rfl, rfl⟩⟩)
set_option maxHeartbeats 4000000 in
set_option maxRecDepth 100000 in
theorem c_Ft_get {tb rr n lo : Nat} {fa : Nat → Nat} {fl : Nat → Nat → Nat} {k : Nat} (e1 : M tb = some (.inr (3, [.ref rr, .int (nI n)]))) (e2 : M rr = some (.inl (ca 3, 16, .inr (.inr (.inr (.inr (oF fa))))))) (hf : ∀ fi, fi < 16 → M (fa fi) = some (.inr (2, [.int (nI (fl fi 0)), .int (nI (fl fi 1)), .int (nI (fl fi 2)), .int (nI (fl fi 3)), .int (nI (fl fi 4)), .int (nI (fl fi 5)), .int (nI (fl fi 6)), .int (nI (fl fi 7))]))) (hn : n ≤ 16) (hA : okA lo fa) (hF : okF fl) (hk : k < 16) : gC l D ca A G y_Ft_get (.code y_Ft_get b_Ft_get 2 (some (.object "PacketGate$Flow"))) ({ frames := 0, cells := 0, slots := 0, locals := 0 }) N M [.ref tb, .int (nI k)] gm_r (fun (r : Nat) (N1 : Nat) (M1 : gm_M) => N = N1 ∧ M = M1 ∧ fa k = r) := by
  refine gm_body (by decide) (Nat.le_of_ble_eq_true rfl) (fun p e s m below meth c ls hx hb hr hts hown hlk hml hnm hP hK hN hX hS hl => ?_)
  have htl : ∀ w ∈ LW, w.before _ s = true := fun w h => hts w (List.mem_cons_of_mem _ h)
  have hown : s.vm.findClass "PacketGate$FlowTable" = some m.cls := hown
  have hl : lv_has ls 2 [(0, .ref tb), (1, .int (nI k))] := hl
  refine lv_aload_n hx hb d_Ft_get_0 rfl (lv_at hl 0 rfl) ?_
  refine gm_get (C := R_Ft) (T := F_Ft) (n := 2) hx hb htl i_Ft hown hK hP e1 rfl 0 (by decide) (htl _ k_158) (fun _ h => h) rfl d_Ft_get_1 ?_
  refine lv_iload_n hx hb d_Ft_get_4 rfl (lv_at hl 1 rfl) ?_
  refine gn_aald hx hb hK hP 3 e2 rfl (by omega) (by omega) rfl d_Ft_get_5 ?_
  exact gc_aret hx hb hr hlk hP hS d_Ft_get_6 ⟨rfl, rfl, rfl⟩
set_option maxHeartbeats 4000000 in
set_option maxRecDepth 100000 in
theorem c_Ft_addSpare {tb rr n lo : Nat} {fa : Nat → Nat} {fl : Nat → Nat → Nat} (e1 : M tb = some (.inr (3, [.ref rr, .int (nI n)]))) (e2 : M rr = some (.inl (ca 3, 16, .inr (.inr (.inr (.inr (oF fa))))))) (hf : ∀ fi, fi < 16 → M (fa fi) = some (.inr (2, [.int (nI (fl fi 0)), .int (nI (fl fi 1)), .int (nI (fl fi 2)), .int (nI (fl fi 3)), .int (nI (fl fi 4)), .int (nI (fl fi 5)), .int (nI (fl fi 6)), .int (nI (fl fi 7))]))) (hn : n ≤ 16) (hA : okA lo fa) (hF : okF fl) (hk : n < 16) : gC l D ca A G y_Ft_addSpare (.code y_Ft_addSpare b_Ft_addSpare 2 (some (.object "PacketGate$Flow"))) ({ frames := 0, cells := 0, slots := 0, locals := 0 }) N M [.ref tb] gm_r (fun (r : Nat) (N1 : Nat) (M1 : gm_M) => N = N1 ∧ gm_up M tb (.inr (3, [.ref rr, .int (nI (n + 1))])) = M1 ∧ fa n = r) := by
  refine gm_body (by decide) (Nat.le_of_ble_eq_true rfl) (fun p e s m below meth c ls hx hb hr hts hown hlk hml hnm hP hK hN hX hS hl => ?_)
  have htl : ∀ w ∈ LW, w.before _ s = true := fun w h => hts w (List.mem_cons_of_mem _ h)
  have hown : s.vm.findClass "PacketGate$FlowTable" = some m.cls := hown
  have hl : lv_has ls 2 [(0, .ref tb)] := hl
  refine lv_aload_n hx hb d_Ft_addSpare_0 rfl (lv_at hl 0 rfl) ?_
  refine gm_get (C := R_Ft) (T := F_Ft) (n := 2) hx hb htl i_Ft hown hK hP e1 rfl 0 (by decide) (htl _ k_158) (fun _ h => h) rfl d_Ft_addSpare_1 ?_
  refine lv_aload_n hx hb d_Ft_addSpare_4 rfl (lv_at hl 0 rfl) ?_
  refine gm_get (C := R_Ft) (T := F_Ft) (n := 2) hx hb htl i_Ft hown hK hP e1 rfl 1 (by decide) (htl _ k_159) (fun _ h => h) rfl d_Ft_addSpare_5 ?_
  refine gn_aald hx hb hK hP 3 e2 rfl (by omega) (by omega) rfl d_Ft_addSpare_8 ?_
  refine lv_astore_n (lv' := [(1, .ref (fa n)), (0, .ref tb)]) hx hb d_Ft_addSpare_9 rfl hl (by decide) rfl (fun ls hl => ?_)
  refine lv_aload_n hx hb d_Ft_addSpare_10 rfl (lv_at hl 1 rfl) ?_
  refine lv_dup hx hb d_Ft_addSpare_11 rfl ?_
  refine gm_get (C := R_Ft) (T := F_Ft) (n := 2) hx hb htl i_Ft hown hK hP e1 rfl 1 (by decide) (htl _ k_159) (fun _ h => h) rfl d_Ft_addSpare_12 ?_
  refine lv_iconst (v := nI 1) hx hb d_Ft_addSpare_15 (by decide) ?_
  refine lv_iadd hx hb d_Ft_addSpare_16 ?_
  rw [show (nI n) + (nI 1) = nI (n + 1) from nI_add _ _]
  refine gm_put (C := R_Ft) (T := F_Ft) (n := 2) (ty := .int) hx hb htl i_Ft t_Ft tk_Ft n_Ft hown hK hP hS e1 rfl 1 (by decide) (htl _ k_159) (fun _ h => h) rfl (tk_Ft 1 (by decide)) rfl rfl (Nat.le_of_ble_eq_true rfl) d_Ft_addSpare_17 (fun H locs hP hS => ?_)
  have hP : gm_P D cls A N (gm_up M tb (.inr (3, [.ref rr, .int (nI (n + 1))]))) H := hP
  have h_1 := gm_pass (k := tb) (y := .inr (3, [.ref rr, .int (nI (n + 1))])) e2 (gm_ne e2 e1 (fun h => by cases h))
  have h_2 := gm_up_self M tb (.inr (3, [.ref rr, .int (nI (n + 1))]))
  have hf_3 : ∀ fi, fi < 16 → (gm_up M tb (.inr (3, [.ref rr, .int (nI (n + 1))]))) (fa fi) = some (.inr (2, [.int (nI (fl fi 0)), .int (nI (fl fi 1)), .int (nI (fl fi 2)), .int (nI (fl fi 3)), .int (nI (fl fi 4)), .int (nI (fl fi 5)), .int (nI (fl fi 6)), .int (nI (fl fi 7))])) := fun fi hfi => gm_pass (k := tb) (y := .inr (3, [.ref rr, .int (nI (n + 1))])) (hf fi hfi) (gm_ne (hf fi hfi) e1 (fun h => by cases h))
  refine lv_aload_n hx hb d_Ft_addSpare_20 rfl (lv_at hl 0 rfl) ?_
  exact gc_aret hx hb hr hlk hP hS d_Ft_addSpare_21 ⟨rfl, rfl, rfl⟩
set_option maxHeartbeats 4000000 in
set_option maxRecDepth 100000 in
theorem c_Ft_find {tb rr n lo : Nat} {fa : Nat → Nat} {fl : Nat → Nat → Nat} {a b c0 : Nat} (e1 : M tb = some (.inr (3, [.ref rr, .int (nI n)]))) (e2 : M rr = some (.inl (ca 3, 16, .inr (.inr (.inr (.inr (oF fa))))))) (hf : ∀ fi, fi < 16 → M (fa fi) = some (.inr (2, [.int (nI (fl fi 0)), .int (nI (fl fi 1)), .int (nI (fl fi 2)), .int (nI (fl fi 3)), .int (nI (fl fi 4)), .int (nI (fl fi 5)), .int (nI (fl fi 6)), .int (nI (fl fi 7))]))) (hn : n ≤ 16) (hA : okA lo fa) (hF : okF fl) (ha : a < 65536) (hb0 : b < 65536) (hc0 : c0 < 65536) : gC l D ca A G y_Ft_find (.code y_Ft_find b_Ft_find 6 (some .int)) ({ frames := 0, cells := 0, slots := 0, locals := 0 }) N M [.ref tb, .int (nI a), .int (nI b), .int (nI c0)] gm_i (fun (r : Int32) (N1 : Nat) (M1 : gm_M) => N = N1 ∧ ((∃ (k : Nat), (k < n) ∧ (fl k 0 = a ∧ fl k 1 = b ∧ fl k 2 = c0) ∧ (∀ j, j < k → ¬ (fl j 0 = a ∧ fl j 1 = b ∧ fl j 2 = c0)) ∧ M = M1 ∧ nI k = r) ∨ ((∀ j, j < n → ¬ (fl j 0 = a ∧ fl j 1 = b ∧ fl j 2 = c0)) ∧ M = M1 ∧ (-1) = r))) := by
  refine gm_body (by decide) (Nat.le_of_ble_eq_true rfl) (fun p e s m below meth c ls hx hb hr hts hown hlk hml hnm hP hK hN hX hS hl => ?_)
  have htl : ∀ w ∈ LW, w.before _ s = true := fun w h => hts w (List.mem_cons_of_mem _ h)
  have hown : s.vm.findClass "PacketGate$FlowTable" = some m.cls := hown
  have hl : lv_has ls 6 [(0, .ref tb), (1, .int (nI a)), (2, .int (nI b)), (3, .int (nI c0))] := hl
  generalize hQ : MQ below _ _ s _ _ A = Q
  have hfb : ∀ i q, fl i q < 1000000 := fun i q => (hF i).1 q
  refine lv_iconst (v := nI 0) hx hb d_Ft_find_0 (by decide) ?_
  refine lv_istore (lv' := [(4, .int (nI 0)), (0, .ref tb), (1, .int (nI a)), (2, .int (nI b)), (3, .int (nI c0))]) hx hb d_Ft_find_1 hl (by decide) rfl (fun ls hl => ?_)
  have loop_3 : ∀ (fu : Nat) (i : Nat) (ls : Array Slot) (H : Heap) (locs : List Loc), (i ≤ n) → (∀ j, j < i → ¬ (fl j 0 = a ∧ fl j 1 = b ∧ fl j 2 = c0)) → (n - i) < fu → gm_P D cls A N M H → va_S A s.heap H locs → lv_has ls 6 [(0, .ref tb), (1, .int (nI a)), (2, .int (nI b)), (3, .int (nI c0)), (4, .int (nI i))] → W p l e ({ frames := 0, cells := 0, slots := 0, locals := 0 }) s m ([.ref tb, .int (nI a), .int (nI b), .int (nI c0)] : List Value).toArray below meth c H locs (0) (0) Q (F0 m 3 ls []) := by
    intro fu
    induction fu with
    | zero => intro i ls H locs hi hno hk; exact absurd hk (Nat.not_lt_zero _)
    | succ fu ih_3 =>
      intro i ls H locs hi hno hk hP hS hl
      refine lv_iload hx hb d_Ft_find_3 (lv_at hl 4 rfl) ?_
      refine lv_aload_n hx hb d_Ft_find_5 rfl (lv_at hl 0 rfl) ?_
      refine gm_get (C := R_Ft) (T := F_Ft) (n := 2) hx hb htl i_Ft hown hK hP e1 rfl 1 (by decide) (htl _ k_159) (fun _ h => h) rfl d_Ft_find_6 ?_
      refine ln_ge (tgt := 57) hx hb d_Ft_find_9 (by decide) (by omega) (by omega) (fun c_1 => ?_) (fun c_1 => ?_)
      · skip
        refine lv_iconst (v := (-1)) hx hb d_Ft_find_57 (by decide) ?_
        rw [← hQ]
        exact gc_iret hx hb hr hlk hP hS d_Ft_find_58 ⟨rfl, Or.inr ⟨fun j hj => hno j (by omega), rfl, rfl⟩⟩
      · skip
        refine lv_aload_n hx hb d_Ft_find_12 rfl (lv_at hl 0 rfl) ?_
        refine gm_get (C := R_Ft) (T := F_Ft) (n := 2) hx hb htl i_Ft hown hK hP e1 rfl 0 (by decide) (htl _ k_158) (fun _ h => h) rfl d_Ft_find_13 ?_
        refine lv_iload hx hb d_Ft_find_16 (lv_at hl 4 rfl) ?_
        refine gn_aald hx hb hK hP 3 e2 rfl (by omega) (by omega) rfl d_Ft_find_18 ?_
        refine lv_astore (lv' := [(5, .ref (fa i)), (0, .ref tb), (1, .int (nI a)), (2, .int (nI b)), (3, .int (nI c0)), (4, .int (nI i))]) hx hb d_Ft_find_19 hl (by decide) rfl (fun ls hl => ?_)
        refine lv_aload hx hb d_Ft_find_21 (lv_at hl 0 rfl) ?_
        refine gm_get (C := R_Fl) (T := F_Fl) (n := 8) hx hb htl i_Fl hown hK hP (hf i (by omega)) rfl 0 (by decide) (htl _ k_128) (fun _ h => h) rfl d_Ft_find_23 ?_
        have b_2 := hfb i 0
        refine lv_iload_n hx hb d_Ft_find_26 rfl (lv_at hl 2 rfl) ?_
        refine ln_ne (tgt := 51) hx hb d_Ft_find_27 (by decide) (by omega) (by omega) (fun c_3 => ?_) (fun c_3 => ?_)
        · skip
          refine lv_iinc (v := nI (i + 1)) (lv' := [(4, .int (nI (i + 1))), (5, .ref (fa i)), (0, .ref tb), (1, .int (nI a)), (2, .int (nI b)), (3, .int (nI c0))]) hx hb d_Ft_find_51 hl (k := 5) rfl (nI_1 i) (by decide) rfl (fun ls hl => ?_)
          refine lv_goto (tgt := 3) hx hb d_Ft_find_54 (by decide) ?_
          exact ih_3 (i + 1) ls _ _ (by omega) (fun j hj => by rcases Nat.lt_succ_iff_lt_or_eq.mp hj with z | z; exact hno j z; subst z; first | exact fun z => c_3 z.1 | exact fun z => c_3 z.2.1 | exact fun z => c_3 z.2.2 | exact fun z => c_3 z.2) (by omega) hP hS (lv_sub hl [2, 3, 4, 5, 0] rfl)
        · skip
          refine lv_aload hx hb d_Ft_find_30 (lv_at hl 0 rfl) ?_
          refine gm_get (C := R_Fl) (T := F_Fl) (n := 8) hx hb htl i_Fl hown hK hP (hf i (by omega)) rfl 1 (by decide) (htl _ k_130) (fun _ h => h) rfl d_Ft_find_32 ?_
          have b_4 := hfb i 1
          refine lv_iload_n hx hb d_Ft_find_35 rfl (lv_at hl 3 rfl) ?_
          refine ln_ne (tgt := 51) hx hb d_Ft_find_36 (by decide) (by omega) (by omega) (fun c_5 => ?_) (fun c_5 => ?_)
          · skip
            refine lv_iinc (v := nI (i + 1)) (lv' := [(4, .int (nI (i + 1))), (5, .ref (fa i)), (0, .ref tb), (1, .int (nI a)), (2, .int (nI b)), (3, .int (nI c0))]) hx hb d_Ft_find_51 hl (k := 5) rfl (nI_1 i) (by decide) rfl (fun ls hl => ?_)
            refine lv_goto (tgt := 3) hx hb d_Ft_find_54 (by decide) ?_
            exact ih_3 (i + 1) ls _ _ (by omega) (fun j hj => by rcases Nat.lt_succ_iff_lt_or_eq.mp hj with z | z; exact hno j z; subst z; first | exact fun z => c_5 z.1 | exact fun z => c_5 z.2.1 | exact fun z => c_5 z.2.2 | exact fun z => c_5 z.2) (by omega) hP hS (lv_sub hl [2, 3, 4, 5, 0] rfl)
          · skip
            refine lv_aload hx hb d_Ft_find_39 (lv_at hl 0 rfl) ?_
            refine gm_get (C := R_Fl) (T := F_Fl) (n := 8) hx hb htl i_Fl hown hK hP (hf i (by omega)) rfl 2 (by decide) (htl _ k_132) (fun _ h => h) rfl d_Ft_find_41 ?_
            have b_6 := hfb i 2
            refine lv_iload_n hx hb d_Ft_find_44 rfl (lv_at hl 4 rfl) ?_
            refine ln_ne (tgt := 51) hx hb d_Ft_find_45 (by decide) (by omega) (by omega) (fun c_7 => ?_) (fun c_7 => ?_)
            · skip
              refine lv_iinc (v := nI (i + 1)) (lv' := [(4, .int (nI (i + 1))), (5, .ref (fa i)), (0, .ref tb), (1, .int (nI a)), (2, .int (nI b)), (3, .int (nI c0))]) hx hb d_Ft_find_51 hl (k := 5) rfl (nI_1 i) (by decide) rfl (fun ls hl => ?_)
              refine lv_goto (tgt := 3) hx hb d_Ft_find_54 (by decide) ?_
              exact ih_3 (i + 1) ls _ _ (by omega) (fun j hj => by rcases Nat.lt_succ_iff_lt_or_eq.mp hj with z | z; exact hno j z; subst z; first | exact fun z => c_7 z.1 | exact fun z => c_7 z.2.1 | exact fun z => c_7 z.2.2 | exact fun z => c_7 z.2) (by omega) hP hS (lv_sub hl [2, 3, 4, 5, 0] rfl)
            · skip
              refine lv_iload hx hb d_Ft_find_48 (lv_at hl 5 rfl) ?_
              rw [← hQ]
              exact gc_iret hx hb hr hlk hP hS d_Ft_find_50 ⟨rfl, Or.inl ⟨i, by omega, ⟨by assumption, by assumption, by assumption⟩, hno, rfl, rfl⟩⟩
  exact loop_3 (_ + 1) 0 ls _ _ (Nat.zero_le _) (fun j hj => absurd hj (Nat.not_lt_zero _)) (Nat.lt_succ_self _) hP hS (lv_sub hl [1, 2, 3, 4, 0] rfl)
set_option maxHeartbeats 4000000 in
set_option maxRecDepth 100000 in
theorem c_Ft_findPort {tb rr n lo : Nat} {fa : Nat → Nat} {fl : Nat → Nat → Nat} {a b : Nat} (e1 : M tb = some (.inr (3, [.ref rr, .int (nI n)]))) (e2 : M rr = some (.inl (ca 3, 16, .inr (.inr (.inr (.inr (oF fa))))))) (hf : ∀ fi, fi < 16 → M (fa fi) = some (.inr (2, [.int (nI (fl fi 0)), .int (nI (fl fi 1)), .int (nI (fl fi 2)), .int (nI (fl fi 3)), .int (nI (fl fi 4)), .int (nI (fl fi 5)), .int (nI (fl fi 6)), .int (nI (fl fi 7))]))) (hn : n ≤ 16) (hA : okA lo fa) (hF : okF fl) (ha : a < 1000000) (hb0 : b < 1000000) : gC l D ca A G y_Ft_findPort (.code y_Ft_findPort b_Ft_findPort 4 (some .int)) ({ frames := 0, cells := 0, slots := 0, locals := 0 }) N M [.ref tb, .int (nI a), .int (nI b)] gm_i (fun (r : Int32) (N1 : Nat) (M1 : gm_M) => N = N1 ∧ ((∃ (k : Nat), (k < n) ∧ (fl k 0 = a ∧ fl k 3 = b) ∧ (∀ j, j < k → ¬ (fl j 0 = a ∧ fl j 3 = b)) ∧ M = M1 ∧ nI k = r) ∨ ((∀ j, j < n → ¬ (fl j 0 = a ∧ fl j 3 = b)) ∧ M = M1 ∧ (-1) = r))) := by
  refine gm_body (by decide) (Nat.le_of_ble_eq_true rfl) (fun p e s m below meth c ls hx hb hr hts hown hlk hml hnm hP hK hN hX hS hl => ?_)
  have htl : ∀ w ∈ LW, w.before _ s = true := fun w h => hts w (List.mem_cons_of_mem _ h)
  have hown : s.vm.findClass "PacketGate$FlowTable" = some m.cls := hown
  have hl : lv_has ls 4 [(0, .ref tb), (1, .int (nI a)), (2, .int (nI b))] := hl
  generalize hQ : MQ below _ _ s _ _ A = Q
  have hfb : ∀ i q, fl i q < 1000000 := fun i q => (hF i).1 q
  refine lv_iconst (v := nI 0) hx hb d_Ft_findPort_0 (by decide) ?_
  refine lv_istore_n (lv' := [(3, .int (nI 0)), (0, .ref tb), (1, .int (nI a)), (2, .int (nI b))]) hx hb d_Ft_findPort_1 rfl hl (by decide) rfl (fun ls hl => ?_)
  have loop_2 : ∀ (fu : Nat) (i : Nat) (ls : Array Slot) (H : Heap) (locs : List Loc), (i ≤ n) → (∀ j, j < i → ¬ (fl j 0 = a ∧ fl j 3 = b)) → (n - i) < fu → gm_P D cls A N M H → va_S A s.heap H locs → lv_has ls 4 [(0, .ref tb), (1, .int (nI a)), (2, .int (nI b)), (3, .int (nI i))] → W p l e ({ frames := 0, cells := 0, slots := 0, locals := 0 }) s m ([.ref tb, .int (nI a), .int (nI b)] : List Value).toArray below meth c H locs (0) (0) Q (F0 m 2 ls []) := by
    intro fu
    induction fu with
    | zero => intro i ls H locs hi hno hk; exact absurd hk (Nat.not_lt_zero _)
    | succ fu ih_2 =>
      intro i ls H locs hi hno hk hP hS hl
      refine lv_iload_n hx hb d_Ft_findPort_2 rfl (lv_at hl 3 rfl) ?_
      refine lv_aload_n hx hb d_Ft_findPort_3 rfl (lv_at hl 0 rfl) ?_
      refine gm_get (C := R_Ft) (T := F_Ft) (n := 2) hx hb htl i_Ft hown hK hP e1 rfl 1 (by decide) (htl _ k_159) (fun _ h => h) rfl d_Ft_findPort_4 ?_
      refine ln_ge (tgt := 44) hx hb d_Ft_findPort_7 (by decide) (by omega) (by omega) (fun c_1 => ?_) (fun c_1 => ?_)
      · skip
        refine lv_iconst (v := (-1)) hx hb d_Ft_findPort_44 (by decide) ?_
        rw [← hQ]
        exact gc_iret hx hb hr hlk hP hS d_Ft_findPort_45 ⟨rfl, Or.inr ⟨fun j hj => hno j (by omega), rfl, rfl⟩⟩
      · skip
        refine lv_aload_n hx hb d_Ft_findPort_10 rfl (lv_at hl 0 rfl) ?_
        refine gm_get (C := R_Ft) (T := F_Ft) (n := 2) hx hb htl i_Ft hown hK hP e1 rfl 0 (by decide) (htl _ k_158) (fun _ h => h) rfl d_Ft_findPort_11 ?_
        refine lv_iload_n hx hb d_Ft_findPort_14 rfl (lv_at hl 3 rfl) ?_
        refine gn_aald hx hb hK hP 3 e2 rfl (by omega) (by omega) rfl d_Ft_findPort_15 ?_
        refine gm_get (C := R_Fl) (T := F_Fl) (n := 8) hx hb htl i_Fl hown hK hP (hf i (by omega)) rfl 0 (by decide) (htl _ k_128) (fun _ h => h) rfl d_Ft_findPort_16 ?_
        have b_2 := hfb i 0
        refine lv_iload_n hx hb d_Ft_findPort_19 rfl (lv_at hl 1 rfl) ?_
        refine ln_ne (tgt := 38) hx hb d_Ft_findPort_20 (by decide) (by omega) (by omega) (fun c_3 => ?_) (fun c_3 => ?_)
        · skip
          refine lv_iinc (v := nI (i + 1)) (lv' := [(3, .int (nI (i + 1))), (0, .ref tb), (1, .int (nI a)), (2, .int (nI b))]) hx hb d_Ft_findPort_38 hl (k := 3) rfl (nI_1 i) (by decide) rfl (fun ls hl => ?_)
          refine lv_goto (tgt := 2) hx hb d_Ft_findPort_41 (by decide) ?_
          exact ih_2 (i + 1) ls _ _ (by omega) (fun j hj => by rcases Nat.lt_succ_iff_lt_or_eq.mp hj with z | z; exact hno j z; subst z; first | exact fun z => c_3 z.1 | exact fun z => c_3 z.2.1 | exact fun z => c_3 z.2.2 | exact fun z => c_3 z.2) (by omega) hP hS (lv_sub hl [1, 2, 3, 0] rfl)
        · skip
          refine lv_aload_n hx hb d_Ft_findPort_23 rfl (lv_at hl 0 rfl) ?_
          refine gm_get (C := R_Ft) (T := F_Ft) (n := 2) hx hb htl i_Ft hown hK hP e1 rfl 0 (by decide) (htl _ k_158) (fun _ h => h) rfl d_Ft_findPort_24 ?_
          refine lv_iload_n hx hb d_Ft_findPort_27 rfl (lv_at hl 3 rfl) ?_
          refine gn_aald hx hb hK hP 3 e2 rfl (by omega) (by omega) rfl d_Ft_findPort_28 ?_
          refine gm_get (C := R_Fl) (T := F_Fl) (n := 8) hx hb htl i_Fl hown hK hP (hf i (by omega)) rfl 3 (by decide) (htl _ k_134) (fun _ h => h) rfl d_Ft_findPort_29 ?_
          have b_4 := hfb i 3
          refine lv_iload_n hx hb d_Ft_findPort_32 rfl (lv_at hl 2 rfl) ?_
          refine ln_ne (tgt := 38) hx hb d_Ft_findPort_33 (by decide) (by omega) (by omega) (fun c_5 => ?_) (fun c_5 => ?_)
          · skip
            refine lv_iinc (v := nI (i + 1)) (lv' := [(3, .int (nI (i + 1))), (0, .ref tb), (1, .int (nI a)), (2, .int (nI b))]) hx hb d_Ft_findPort_38 hl (k := 3) rfl (nI_1 i) (by decide) rfl (fun ls hl => ?_)
            refine lv_goto (tgt := 2) hx hb d_Ft_findPort_41 (by decide) ?_
            exact ih_2 (i + 1) ls _ _ (by omega) (fun j hj => by rcases Nat.lt_succ_iff_lt_or_eq.mp hj with z | z; exact hno j z; subst z; first | exact fun z => c_5 z.1 | exact fun z => c_5 z.2.1 | exact fun z => c_5 z.2.2 | exact fun z => c_5 z.2) (by omega) hP hS (lv_sub hl [1, 2, 3, 0] rfl)
          · skip
            refine lv_iload_n hx hb d_Ft_findPort_36 rfl (lv_at hl 3 rfl) ?_
            rw [← hQ]
            exact gc_iret hx hb hr hlk hP hS d_Ft_findPort_37 ⟨rfl, Or.inl ⟨i, by omega, ⟨by assumption, by assumption⟩, hno, rfl, rfl⟩⟩
  exact loop_2 (_ + 1) 0 ls _ _ (Nat.zero_le _) (fun j hj => absurd hj (Nat.not_lt_zero _)) (Nat.lt_succ_self _) hP hS (lv_sub hl [1, 2, 3, 0] rfl)
set_option maxHeartbeats 4000000 in
set_option maxRecDepth 100000 in
theorem c_Ft_portOfInside {tb rr n lo : Nat} {fa : Nat → Nat} {fl : Nat → Nat → Nat} {a b : Nat} (e1 : M tb = some (.inr (3, [.ref rr, .int (nI n)]))) (e2 : M rr = some (.inl (ca 3, 16, .inr (.inr (.inr (.inr (oF fa))))))) (hf : ∀ fi, fi < 16 → M (fa fi) = some (.inr (2, [.int (nI (fl fi 0)), .int (nI (fl fi 1)), .int (nI (fl fi 2)), .int (nI (fl fi 3)), .int (nI (fl fi 4)), .int (nI (fl fi 5)), .int (nI (fl fi 6)), .int (nI (fl fi 7))]))) (hn : n ≤ 16) (hA : okA lo fa) (hF : okF fl) (ha : a < 65536) (hb0 : b < 65536) : gC l D ca A G y_Ft_portOfInside (.code y_Ft_portOfInside b_Ft_portOfInside 4 (some .int)) ({ frames := 0, cells := 0, slots := 0, locals := 0 }) N M [.ref tb, .int (nI a), .int (nI b)] gm_i (fun (r : Int32) (N1 : Nat) (M1 : gm_M) => N = N1 ∧ ((∃ (k : Nat), (k < n) ∧ (fl k 0 = a ∧ fl k 1 = b) ∧ (∀ j, j < k → ¬ (fl j 0 = a ∧ fl j 1 = b)) ∧ M = M1 ∧ nI (fl k 3) = r) ∨ ((∀ j, j < n → ¬ (fl j 0 = a ∧ fl j 1 = b)) ∧ M = M1 ∧ (-1) = r))) := by
  refine gm_body (by decide) (Nat.le_of_ble_eq_true rfl) (fun p e s m below meth c ls hx hb hr hts hown hlk hml hnm hP hK hN hX hS hl => ?_)
  have htl : ∀ w ∈ LW, w.before _ s = true := fun w h => hts w (List.mem_cons_of_mem _ h)
  have hown : s.vm.findClass "PacketGate$FlowTable" = some m.cls := hown
  have hl : lv_has ls 4 [(0, .ref tb), (1, .int (nI a)), (2, .int (nI b))] := hl
  generalize hQ : MQ below _ _ s _ _ A = Q
  have hfb : ∀ i q, fl i q < 1000000 := fun i q => (hF i).1 q
  refine lv_iconst (v := nI 0) hx hb d_Ft_portOfInside_0 (by decide) ?_
  refine lv_istore_n (lv' := [(3, .int (nI 0)), (0, .ref tb), (1, .int (nI a)), (2, .int (nI b))]) hx hb d_Ft_portOfInside_1 rfl hl (by decide) rfl (fun ls hl => ?_)
  have loop_2 : ∀ (fu : Nat) (i : Nat) (ls : Array Slot) (H : Heap) (locs : List Loc), (i ≤ n) → (∀ j, j < i → ¬ (fl j 0 = a ∧ fl j 1 = b)) → (n - i) < fu → gm_P D cls A N M H → va_S A s.heap H locs → lv_has ls 4 [(0, .ref tb), (1, .int (nI a)), (2, .int (nI b)), (3, .int (nI i))] → W p l e ({ frames := 0, cells := 0, slots := 0, locals := 0 }) s m ([.ref tb, .int (nI a), .int (nI b)] : List Value).toArray below meth c H locs (0) (0) Q (F0 m 2 ls []) := by
    intro fu
    induction fu with
    | zero => intro i ls H locs hi hno hk; exact absurd hk (Nat.not_lt_zero _)
    | succ fu ih_2 =>
      intro i ls H locs hi hno hk hP hS hl
      refine lv_iload_n hx hb d_Ft_portOfInside_2 rfl (lv_at hl 3 rfl) ?_
      refine lv_aload_n hx hb d_Ft_portOfInside_3 rfl (lv_at hl 0 rfl) ?_
      refine gm_get (C := R_Ft) (T := F_Ft) (n := 2) hx hb htl i_Ft hown hK hP e1 rfl 1 (by decide) (htl _ k_159) (fun _ h => h) rfl d_Ft_portOfInside_4 ?_
      refine ln_ge (tgt := 52) hx hb d_Ft_portOfInside_7 (by decide) (by omega) (by omega) (fun c_1 => ?_) (fun c_1 => ?_)
      · skip
        refine lv_iconst (v := (-1)) hx hb d_Ft_portOfInside_52 (by decide) ?_
        rw [← hQ]
        exact gc_iret hx hb hr hlk hP hS d_Ft_portOfInside_53 ⟨rfl, Or.inr ⟨fun j hj => hno j (by omega), rfl, rfl⟩⟩
      · skip
        refine lv_aload_n hx hb d_Ft_portOfInside_10 rfl (lv_at hl 0 rfl) ?_
        refine gm_get (C := R_Ft) (T := F_Ft) (n := 2) hx hb htl i_Ft hown hK hP e1 rfl 0 (by decide) (htl _ k_158) (fun _ h => h) rfl d_Ft_portOfInside_11 ?_
        refine lv_iload_n hx hb d_Ft_portOfInside_14 rfl (lv_at hl 3 rfl) ?_
        refine gn_aald hx hb hK hP 3 e2 rfl (by omega) (by omega) rfl d_Ft_portOfInside_15 ?_
        refine gm_get (C := R_Fl) (T := F_Fl) (n := 8) hx hb htl i_Fl hown hK hP (hf i (by omega)) rfl 0 (by decide) (htl _ k_128) (fun _ h => h) rfl d_Ft_portOfInside_16 ?_
        have b_2 := hfb i 0
        refine lv_iload_n hx hb d_Ft_portOfInside_19 rfl (lv_at hl 1 rfl) ?_
        refine ln_ne (tgt := 46) hx hb d_Ft_portOfInside_20 (by decide) (by omega) (by omega) (fun c_3 => ?_) (fun c_3 => ?_)
        · skip
          refine lv_iinc (v := nI (i + 1)) (lv' := [(3, .int (nI (i + 1))), (0, .ref tb), (1, .int (nI a)), (2, .int (nI b))]) hx hb d_Ft_portOfInside_46 hl (k := 3) rfl (nI_1 i) (by decide) rfl (fun ls hl => ?_)
          refine lv_goto (tgt := 2) hx hb d_Ft_portOfInside_49 (by decide) ?_
          exact ih_2 (i + 1) ls _ _ (by omega) (fun j hj => by rcases Nat.lt_succ_iff_lt_or_eq.mp hj with z | z; exact hno j z; subst z; first | exact fun z => c_3 z.1 | exact fun z => c_3 z.2.1 | exact fun z => c_3 z.2.2 | exact fun z => c_3 z.2) (by omega) hP hS (lv_sub hl [1, 2, 3, 0] rfl)
        · skip
          refine lv_aload_n hx hb d_Ft_portOfInside_23 rfl (lv_at hl 0 rfl) ?_
          refine gm_get (C := R_Ft) (T := F_Ft) (n := 2) hx hb htl i_Ft hown hK hP e1 rfl 0 (by decide) (htl _ k_158) (fun _ h => h) rfl d_Ft_portOfInside_24 ?_
          refine lv_iload_n hx hb d_Ft_portOfInside_27 rfl (lv_at hl 3 rfl) ?_
          refine gn_aald hx hb hK hP 3 e2 rfl (by omega) (by omega) rfl d_Ft_portOfInside_28 ?_
          refine gm_get (C := R_Fl) (T := F_Fl) (n := 8) hx hb htl i_Fl hown hK hP (hf i (by omega)) rfl 1 (by decide) (htl _ k_130) (fun _ h => h) rfl d_Ft_portOfInside_29 ?_
          have b_4 := hfb i 1
          refine lv_iload_n hx hb d_Ft_portOfInside_32 rfl (lv_at hl 2 rfl) ?_
          refine ln_ne (tgt := 46) hx hb d_Ft_portOfInside_33 (by decide) (by omega) (by omega) (fun c_5 => ?_) (fun c_5 => ?_)
          · skip
            refine lv_iinc (v := nI (i + 1)) (lv' := [(3, .int (nI (i + 1))), (0, .ref tb), (1, .int (nI a)), (2, .int (nI b))]) hx hb d_Ft_portOfInside_46 hl (k := 3) rfl (nI_1 i) (by decide) rfl (fun ls hl => ?_)
            refine lv_goto (tgt := 2) hx hb d_Ft_portOfInside_49 (by decide) ?_
            exact ih_2 (i + 1) ls _ _ (by omega) (fun j hj => by rcases Nat.lt_succ_iff_lt_or_eq.mp hj with z | z; exact hno j z; subst z; first | exact fun z => c_5 z.1 | exact fun z => c_5 z.2.1 | exact fun z => c_5 z.2.2 | exact fun z => c_5 z.2) (by omega) hP hS (lv_sub hl [1, 2, 3, 0] rfl)
          · skip
            refine lv_aload_n hx hb d_Ft_portOfInside_36 rfl (lv_at hl 0 rfl) ?_
            refine gm_get (C := R_Ft) (T := F_Ft) (n := 2) hx hb htl i_Ft hown hK hP e1 rfl 0 (by decide) (htl _ k_158) (fun _ h => h) rfl d_Ft_portOfInside_37 ?_
            refine lv_iload_n hx hb d_Ft_portOfInside_40 rfl (lv_at hl 3 rfl) ?_
            refine gn_aald hx hb hK hP 3 e2 rfl (by omega) (by omega) rfl d_Ft_portOfInside_41 ?_
            refine gm_get (C := R_Fl) (T := F_Fl) (n := 8) hx hb htl i_Fl hown hK hP (hf i (by omega)) rfl 3 (by decide) (htl _ k_134) (fun _ h => h) rfl d_Ft_portOfInside_42 ?_
            have b_6 := hfb i 3
            rw [← hQ]
            exact gc_iret hx hb hr hlk hP hS d_Ft_portOfInside_45 ⟨rfl, Or.inl ⟨i, by omega, ⟨by assumption, by assumption⟩, hno, rfl, rfl⟩⟩
  exact loop_2 (_ + 1) 0 ls _ _ (Nat.zero_le _) (fun j hj => absurd hj (Nat.not_lt_zero _)) (Nat.lt_succ_self _) hP hS (lv_sub hl [1, 2, 3, 0] rfl)
set_option maxHeartbeats 4000000 in
set_option maxRecDepth 100000 in
theorem c_Ft_insideOfPort {tb rr n lo : Nat} {fa : Nat → Nat} {fl : Nat → Nat → Nat} {a b : Nat} (e1 : M tb = some (.inr (3, [.ref rr, .int (nI n)]))) (e2 : M rr = some (.inl (ca 3, 16, .inr (.inr (.inr (.inr (oF fa))))))) (hf : ∀ fi, fi < 16 → M (fa fi) = some (.inr (2, [.int (nI (fl fi 0)), .int (nI (fl fi 1)), .int (nI (fl fi 2)), .int (nI (fl fi 3)), .int (nI (fl fi 4)), .int (nI (fl fi 5)), .int (nI (fl fi 6)), .int (nI (fl fi 7))]))) (hn : n ≤ 16) (hA : okA lo fa) (hF : okF fl) (ha : a < 65536) (hb0 : b < 65536) : gC l D ca A G y_Ft_insideOfPort (.code y_Ft_insideOfPort b_Ft_insideOfPort 4 (some .int)) ({ frames := 1, cells := 0, slots := 0, locals := 23 }) N M [.ref tb, .int (nI a), .int (nI b)] gm_i (fun (r : Int32) (N1 : Nat) (M1 : gm_M) => N = N1 ∧ ((∃ (k : Nat), (k < n) ∧ (fl k 0 = a ∧ fl k 3 = b) ∧ (∀ j, j < k → ¬ (fl j 0 = a ∧ fl j 3 = b)) ∧ M = M1 ∧ nI (fl k 1) = r) ∨ ((∀ j, j < n → ¬ (fl j 0 = a ∧ fl j 3 = b)) ∧ M = M1 ∧ (-1) = r))) := by
  refine gm_body (by decide) (Nat.le_of_ble_eq_true rfl) (fun p e s m below meth c ls hx hb hr hts hown hlk hml hnm hP hK hN hX hS hl => ?_)
  have htl : ∀ w ∈ LW, w.before _ s = true := fun w h => hts w (List.mem_cons_of_mem _ h)
  have hown : s.vm.findClass "PacketGate$FlowTable" = some m.cls := hown
  have hl : lv_has ls 4 [(0, .ref tb), (1, .int (nI a)), (2, .int (nI b))] := hl
  have hfb : ∀ i q, fl i q < 1000000 := fun i q => (hF i).1 q
  refine lv_aload_n hx hb d_Ft_insideOfPort_0 rfl (lv_at hl 0 rfl) ?_
  refine lv_iload_n hx hb d_Ft_insideOfPort_1 rfl (lv_at hl 1 rfl) ?_
  refine lv_iload_n hx hb d_Ft_insideOfPort_2 rfl (lv_at hl 2 rfl) ?_
  refine gc_V (q := (R_Ft, F_Ft, 2)) (n := 2) [.int (nI a), .int (nI b)] [] hx hb hml hown hts hK hN hX hP hS (c_Ft_findPort e1 e2 hf (by omega) hA hF (by omega) (by omega)) rfl e1 k_505 k_507 ks_Ft_findPort k_7 k_508 (by decide +kernel) ⟨by decide, by decide⟩ rfl hl.1 rfl (Nat.le_of_ble_eq_true rfl) d_Ft_insideOfPort_3 ⟨by decide, by decide⟩ (fun r N1 M_1 H locs hw hP hS => ?_)
  obtain ⟨rfl, hw⟩ := hw
  rcases hw with ⟨kv_2, c_3, c_4, c_5, rfl, rfl⟩ | ⟨c_6, rfl, rfl⟩
  · skip
    refine W.eq (g2 := F0 m 6 ls [.int (nI kv_2)]) rfl ?_
    refine lv_istore_n (lv' := [(3, .int (nI kv_2)), (0, .ref tb), (1, .int (nI a)), (2, .int (nI b))]) hx hb d_Ft_insideOfPort_6 rfl hl (by decide) rfl (fun ls hl => ?_)
    refine lv_iload_n hx hb d_Ft_insideOfPort_7 rfl (lv_at hl 0 rfl) ?_
    refine lv_iconst (v := (-1)) hx hb d_Ft_insideOfPort_8 (by decide) ?_
    refine lv_icmp_ne (tgt := 16) hx hb d_Ft_insideOfPort_9 (by decide) (fun _ => ?_) (fun q => absurd q (nI_nm1 (by omega)))
    refine lv_aload_n hx hb d_Ft_insideOfPort_16 rfl (lv_at hl 1 rfl) ?_
    refine gm_get (C := R_Ft) (T := F_Ft) (n := 2) hx hb htl i_Ft hown hK hP e1 rfl 0 (by decide) (htl _ k_158) (fun _ h => h) rfl d_Ft_insideOfPort_17 ?_
    refine lv_iload_n hx hb d_Ft_insideOfPort_20 rfl (lv_at hl 0 rfl) ?_
    refine gn_aald hx hb hK hP 3 e2 rfl (by omega) (by omega) rfl d_Ft_insideOfPort_21 ?_
    refine gm_get (C := R_Fl) (T := F_Fl) (n := 8) hx hb htl i_Fl hown hK hP (hf kv_2 (by omega)) rfl 1 (by decide) (htl _ k_130) (fun _ h => h) rfl d_Ft_insideOfPort_22 ?_
    have b_7 := hfb kv_2 1
    exact gc_iret hx hb hr hlk hP hS d_Ft_insideOfPort_25 ⟨rfl, Or.inl ⟨kv_2, c_3, c_4, c_5, rfl, rfl⟩⟩
  · skip
    refine W.eq (g2 := F0 m 6 ls [.int (-1)]) rfl ?_
    refine lv_istore_n (lv' := [(3, .int (-1)), (0, .ref tb), (1, .int (nI a)), (2, .int (nI b))]) hx hb d_Ft_insideOfPort_6 rfl hl (by decide) rfl (fun ls hl => ?_)
    refine lv_iload_n hx hb d_Ft_insideOfPort_7 rfl (lv_at hl 0 rfl) ?_
    refine lv_iconst (v := (-1)) hx hb d_Ft_insideOfPort_8 (by decide) ?_
    refine lv_icmp_ne (tgt := 16) hx hb d_Ft_insideOfPort_9 (by decide) (fun q => absurd q (by decide)) (fun _ => ?_)
    refine lv_iconst (v := (-1)) hx hb d_Ft_insideOfPort_12 (by decide) ?_
    refine lv_goto (tgt := 25) hx hb d_Ft_insideOfPort_13 (by decide) ?_
    exact gc_iret hx hb hr hlk hP hS d_Ft_insideOfPort_25 ⟨rfl, Or.inr ⟨c_6, rfl, rfl⟩⟩
set_option maxHeartbeats 4000000 in
set_option maxRecDepth 100000 in
theorem c_Ft_remove {tb rr n lo : Nat} {fa : Nat → Nat} {fl : Nat → Nat → Nat} {k : Nat} (e1 : M tb = some (.inr (3, [.ref rr, .int (nI n)]))) (e2 : M rr = some (.inl (ca 3, 16, .inr (.inr (.inr (.inr (oF fa))))))) (hf : ∀ fi, fi < 16 → M (fa fi) = some (.inr (2, [.int (nI (fl fi 0)), .int (nI (fl fi 1)), .int (nI (fl fi 2)), .int (nI (fl fi 3)), .int (nI (fl fi 4)), .int (nI (fl fi 5)), .int (nI (fl fi 6)), .int (nI (fl fi 7))]))) (hn : n ≤ 16) (hA : okA lo fa) (hF : okF fl) (hk : k < n) : gC l D ca A G y_Ft_remove (.code y_Ft_remove b_Ft_remove 4 none) ({ frames := 0, cells := 0, slots := 0, locals := 0 }) N M [.ref tb, .int (nI k)] gm_v (fun (_ : Unit) (N1 : Nat) (M1 : gm_M) => N = N1 ∧ gm_up (gm_up M rr (.inl (ca 3, 16, .inr (.inr (.inr (.inr (oF (rot fa k n)))))))) tb (.inr (3, [.ref rr, .int (nI (n - 1))])) = M1) := by
  refine gm_body (by decide) (Nat.le_of_ble_eq_true rfl) (fun p e s m below meth c ls hx hb hr hts hown hlk hml hnm hP hK hN hX hS hl => ?_)
  have htl : ∀ w ∈ LW, w.before _ s = true := fun w h => hts w (List.mem_cons_of_mem _ h)
  have hown : s.vm.findClass "PacketGate$FlowTable" = some m.cls := hown
  have hl : lv_has ls 4 [(0, .ref tb), (1, .int (nI k))] := hl
  generalize hQ : MQ below _ _ s _ _ A = Q
  have hfb : ∀ i q, fl i q < 1000000 := fun i q => (hF i).1 q
  refine lv_aload_n hx hb d_Ft_remove_0 rfl (lv_at hl 0 rfl) ?_
  refine gm_get (C := R_Ft) (T := F_Ft) (n := 2) hx hb htl i_Ft hown hK hP e1 rfl 0 (by decide) (htl _ k_158) (fun _ h => h) rfl d_Ft_remove_1 ?_
  refine lv_iload_n hx hb d_Ft_remove_4 rfl (lv_at hl 1 rfl) ?_
  refine gn_aald hx hb hK hP 3 e2 rfl (by omega) (by omega) rfl d_Ft_remove_5 ?_
  refine lv_astore_n (lv' := [(2, .ref (fa k)), (0, .ref tb), (1, .int (nI k))]) hx hb d_Ft_remove_6 rfl hl (by decide) rfl (fun ls hl => ?_)
  refine lv_iload_n hx hb d_Ft_remove_7 rfl (lv_at hl 2 rfl) ?_
  refine lv_iconst (v := nI 1) hx hb d_Ft_remove_8 (by decide) ?_
  refine lv_iadd hx hb d_Ft_remove_9 ?_
  rw [show (nI k) + (nI 1) = nI (k + 1) from nI_add _ _]
  refine lv_istore_n (lv' := [(3, .int (nI (k + 1))), (2, .ref (fa k)), (0, .ref tb), (1, .int (nI k))]) hx hb d_Ft_remove_10 rfl hl (by decide) rfl (fun ls hl => ?_)
  have loop_11 : ∀ (fu : Nat) (j : Nat) (ls : Array Slot) (H : Heap) (locs : List Loc), (k ≤ j ∧ j + 1 ≤ n) → (n - j) < fu → gm_P D cls A N (gm_up M rr (.inl (ca 3, 16, .inr (.inr (.inr (.inr (oF (shf fa k j)))))))) H → va_S A s.heap H locs → lv_has ls 4 [(0, .ref tb), (2, .ref (fa k)), (3, .int (nI (j + 1)))] → W p l e ({ frames := 0, cells := 0, slots := 0, locals := 0 }) s m ([.ref tb, .int (nI k)] : List Value).toArray below meth c H locs (0) (0) Q (F0 m 11 ls []) := by
    intro fu
    induction fu with
    | zero => intro j ls H locs hj hk; exact absurd hk (Nat.not_lt_zero _)
    | succ fu ih_11 =>
      intro j ls H locs hj hk hP hS hl
      have h_1 := gm_pass (k := rr) (y := .inl (ca 3, 16, .inr (.inr (.inr (.inr (oF (shf fa k j))))))) e1 (gm_ne e1 e2 (fun h => by cases h))
      have h_2 := gm_up_self M rr (.inl (ca 3, 16, .inr (.inr (.inr (.inr (oF (shf fa k j)))))))
      have hf_3 : ∀ fi, fi < 16 → (gm_up M rr (.inl (ca 3, 16, .inr (.inr (.inr (.inr (oF (shf fa k j)))))))) (fa fi) = some (.inr (2, [.int (nI (fl fi 0)), .int (nI (fl fi 1)), .int (nI (fl fi 2)), .int (nI (fl fi 3)), .int (nI (fl fi 4)), .int (nI (fl fi 5)), .int (nI (fl fi 6)), .int (nI (fl fi 7))])) := fun fi hfi => gm_pass (k := rr) (y := .inl (ca 3, 16, .inr (.inr (.inr (.inr (oF (shf fa k j))))))) (hf fi hfi) (gm_ne (hf fi hfi) e2 (fun h => by cases h))
      refine lv_iload_n hx hb d_Ft_remove_11 rfl (lv_at hl 2 rfl) ?_
      refine lv_aload_n hx hb d_Ft_remove_12 rfl (lv_at hl 0 rfl) ?_
      refine gm_get (C := R_Ft) (T := F_Ft) (n := 2) hx hb htl i_Ft hown hK hP h_1 rfl 1 (by decide) (htl _ k_159) (fun _ h => h) rfl d_Ft_remove_13 ?_
      refine ln_ge (tgt := 39) hx hb d_Ft_remove_16 (by decide) (by omega) (by omega) (fun c_4 => ?_) (fun c_4 => ?_)
      · skip
        refine lv_aload_n hx hb d_Ft_remove_39 rfl (lv_at hl 0 rfl) ?_
        refine gm_get (C := R_Ft) (T := F_Ft) (n := 2) hx hb htl i_Ft hown hK hP h_1 rfl 0 (by decide) (htl _ k_158) (fun _ h => h) rfl d_Ft_remove_40 ?_
        refine lv_aload_n hx hb d_Ft_remove_43 rfl (lv_at hl 0 rfl) ?_
        refine gm_get (C := R_Ft) (T := F_Ft) (n := 2) hx hb htl i_Ft hown hK hP h_1 rfl 1 (by decide) (htl _ k_159) (fun _ h => h) rfl d_Ft_remove_44 ?_
        refine lv_iconst (v := nI 1) hx hb d_Ft_remove_47 (by decide) ?_
        refine lv_isub hx hb d_Ft_remove_48 ?_
        rw [show (nI n) - (nI 1) = nI (n - 1) from pk_sub (by omega)]
        refine lv_aload_n hx hb d_Ft_remove_49 rfl (lv_at hl 1 rfl) ?_
        refine gz_aast hx hb hK hP hS 3 2 h_2 rfl (hf_3 k (by omega)) rfl (by omega) (by omega) d_Ft_remove_50 (fun H locs hP hS => ?_)
        have he_5 : gm_up (gm_up M rr (.inl (ca 3, 16, .inr (.inr (.inr (.inr (oF (shf fa k j)))))))) rr (.inl (ca 3, 16, .inr (.inr (.inr (.inr (oF (va_up (shf fa k j) (n - 1) (fa k)))))))) = gm_up M rr (.inl (ca 3, 16, .inr (.inr (.inr (.inr (oF (va_up (shf fa k j) (n - 1) (fa k)))))))) := gm_up_up _ _ _ _
        have hP := Eq.mp (congrArg (fun Z => gm_P D cls A N Z H) he_5) hP
        have h_6 := (congrFun he_5 _).symm.trans (gm_pass (k := rr) (y := .inl (ca 3, 16, .inr (.inr (.inr (.inr (oF (va_up (shf fa k j) (n - 1) (fa k)))))))) h_1 (gm_ne h_1 h_2 (fun h => by cases h)))
        have h_7 := (congrFun he_5 _).symm.trans (gm_up_self (gm_up M rr (.inl (ca 3, 16, .inr (.inr (.inr (.inr (oF (shf fa k j)))))))) rr (.inl (ca 3, 16, .inr (.inr (.inr (.inr (oF (va_up (shf fa k j) (n - 1) (fa k)))))))))
        have hf_8 : ∀ fi, fi < 16 → (gm_up M rr (.inl (ca 3, 16, .inr (.inr (.inr (.inr (oF (va_up (shf fa k j) (n - 1) (fa k))))))))) (fa fi) = some (.inr (2, [.int (nI (fl fi 0)), .int (nI (fl fi 1)), .int (nI (fl fi 2)), .int (nI (fl fi 3)), .int (nI (fl fi 4)), .int (nI (fl fi 5)), .int (nI (fl fi 6)), .int (nI (fl fi 7))])) := fun fi hfi => (congrFun he_5 _).symm.trans (gm_pass (k := rr) (y := .inl (ca 3, 16, .inr (.inr (.inr (.inr (oF (va_up (shf fa k j) (n - 1) (fa k)))))))) (hf_3 fi hfi) (gm_ne (hf_3 fi hfi) h_2 (fun h => by cases h)))
        refine lv_aload_n hx hb d_Ft_remove_51 rfl (lv_at hl 0 rfl) ?_
        refine lv_dup hx hb d_Ft_remove_52 rfl ?_
        refine gm_get (C := R_Ft) (T := F_Ft) (n := 2) hx hb htl i_Ft hown hK hP h_6 rfl 1 (by decide) (htl _ k_159) (fun _ h => h) rfl d_Ft_remove_53 ?_
        refine lv_iconst (v := nI 1) hx hb d_Ft_remove_56 (by decide) ?_
        refine lv_isub hx hb d_Ft_remove_57 ?_
        rw [show (nI n) - (nI 1) = nI (n - 1) from pk_sub (by omega)]
        refine gm_put (C := R_Ft) (T := F_Ft) (n := 2) (ty := .int) hx hb htl i_Ft t_Ft tk_Ft n_Ft hown hK hP hS h_6 rfl 1 (by decide) (htl _ k_159) (fun _ h => h) rfl (tk_Ft 1 (by decide)) rfl rfl (Nat.le_of_ble_eq_true rfl) d_Ft_remove_58 (fun H locs hP hS => ?_)
        have hP : gm_P D cls A N (gm_up (gm_up M rr (.inl (ca 3, 16, .inr (.inr (.inr (.inr (oF (va_up (shf fa k j) (n - 1) (fa k))))))))) tb (.inr (3, [.ref rr, .int (nI (n - 1))]))) H := hP
        have h_9 := gm_pass (k := tb) (y := .inr (3, [.ref rr, .int (nI (n - 1))])) h_7 (gm_ne h_7 h_6 (fun h => by cases h))
        have h_10 := gm_up_self (gm_up M rr (.inl (ca 3, 16, .inr (.inr (.inr (.inr (oF (va_up (shf fa k j) (n - 1) (fa k))))))))) tb (.inr (3, [.ref rr, .int (nI (n - 1))]))
        have hf_11 : ∀ fi, fi < 16 → (gm_up (gm_up M rr (.inl (ca 3, 16, .inr (.inr (.inr (.inr (oF (va_up (shf fa k j) (n - 1) (fa k))))))))) tb (.inr (3, [.ref rr, .int (nI (n - 1))]))) (fa fi) = some (.inr (2, [.int (nI (fl fi 0)), .int (nI (fl fi 1)), .int (nI (fl fi 2)), .int (nI (fl fi 3)), .int (nI (fl fi 4)), .int (nI (fl fi 5)), .int (nI (fl fi 6)), .int (nI (fl fi 7))])) := fun fi hfi => gm_pass (k := tb) (y := .inr (3, [.ref rr, .int (nI (n - 1))])) (hf_8 fi hfi) (gm_ne (hf_8 fi hfi) h_6 (fun h => by cases h))
        rw [← hQ]
        exact gc_vret hx hb hr hlk hP hS d_Ft_remove_61 ⟨rfl, (by rw [show j = n - 1 from (by omega), rot_of (by omega)])⟩
      · skip
        refine lv_aload_n hx hb d_Ft_remove_19 rfl (lv_at hl 0 rfl) ?_
        refine gm_get (C := R_Ft) (T := F_Ft) (n := 2) hx hb htl i_Ft hown hK hP h_1 rfl 0 (by decide) (htl _ k_158) (fun _ h => h) rfl d_Ft_remove_20 ?_
        refine lv_iload_n hx hb d_Ft_remove_23 rfl (lv_at hl 2 rfl) ?_
        refine lv_iconst (v := nI 1) hx hb d_Ft_remove_24 (by decide) ?_
        refine lv_isub hx hb d_Ft_remove_25 ?_
        rw [show (nI (j + 1)) - (nI 1) = nI j from pk_sub (by omega)]
        refine lv_aload_n hx hb d_Ft_remove_26 rfl (lv_at hl 0 rfl) ?_
        refine gm_get (C := R_Ft) (T := F_Ft) (n := 2) hx hb htl i_Ft hown hK hP h_1 rfl 0 (by decide) (htl _ k_158) (fun _ h => h) rfl d_Ft_remove_27 ?_
        refine lv_iload_n hx hb d_Ft_remove_30 rfl (lv_at hl 2 rfl) ?_
        refine gn_aald hx hb hK hP 3 h_2 rfl (by omega) (by omega) (congrArg some (shf_at (by omega))) d_Ft_remove_31 ?_
        refine gz_aast hx hb hK hP hS 3 2 h_2 rfl (hf_3 (j + 1) (by omega)) rfl (by omega) (by omega) d_Ft_remove_32 (fun H locs hP hS => ?_)
        have he_12 : gm_up (gm_up M rr (.inl (ca 3, 16, .inr (.inr (.inr (.inr (oF (shf fa k j)))))))) rr (.inl (ca 3, 16, .inr (.inr (.inr (.inr (oF (va_up (shf fa k j) j (fa (j + 1))))))))) = gm_up M rr (.inl (ca 3, 16, .inr (.inr (.inr (.inr (oF (va_up (shf fa k j) j (fa (j + 1))))))))) := gm_up_up _ _ _ _
        have hP := Eq.mp (congrArg (fun Z => gm_P D cls A N Z H) he_12) hP
        have h_13 := (congrFun he_12 _).symm.trans (gm_pass (k := rr) (y := .inl (ca 3, 16, .inr (.inr (.inr (.inr (oF (va_up (shf fa k j) j (fa (j + 1))))))))) h_1 (gm_ne h_1 h_2 (fun h => by cases h)))
        have h_14 := (congrFun he_12 _).symm.trans (gm_up_self (gm_up M rr (.inl (ca 3, 16, .inr (.inr (.inr (.inr (oF (shf fa k j)))))))) rr (.inl (ca 3, 16, .inr (.inr (.inr (.inr (oF (va_up (shf fa k j) j (fa (j + 1))))))))))
        have hf_15 : ∀ fi, fi < 16 → (gm_up M rr (.inl (ca 3, 16, .inr (.inr (.inr (.inr (oF (va_up (shf fa k j) j (fa (j + 1)))))))))) (fa fi) = some (.inr (2, [.int (nI (fl fi 0)), .int (nI (fl fi 1)), .int (nI (fl fi 2)), .int (nI (fl fi 3)), .int (nI (fl fi 4)), .int (nI (fl fi 5)), .int (nI (fl fi 6)), .int (nI (fl fi 7))])) := fun fi hfi => (congrFun he_12 _).symm.trans (gm_pass (k := rr) (y := .inl (ca 3, 16, .inr (.inr (.inr (.inr (oF (va_up (shf fa k j) j (fa (j + 1))))))))) (hf_3 fi hfi) (gm_ne (hf_3 fi hfi) h_2 (fun h => by cases h)))
        refine lv_iinc (v := nI (j + 1 + 1)) (lv' := [(3, .int (nI (j + 1 + 1))), (0, .ref tb), (2, .ref (fa k))]) hx hb d_Ft_remove_33 hl (k := 2) rfl (nI_1 (j + 1)) (by decide) rfl (fun ls hl => ?_)
        refine lv_goto (tgt := 11) hx hb d_Ft_remove_36 (by decide) ?_
        exact ih_11 (j + 1) ls _ _ (⟨by omega, by omega⟩) (by omega) (by rw [← shf_s hj.1]; exact hP) hS (lv_sub hl [1, 2, 0] rfl)
  exact loop_11 (_ + 1) k ls _ _ (⟨Nat.le_refl _, by omega⟩) (Nat.lt_succ_self _) (by rw [shf_0, gm_fix e2]; exact hP) hS (lv_sub hl [2, 1, 0] rfl)
end C14
