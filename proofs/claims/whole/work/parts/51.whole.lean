def tmL : List Term := [.string "PacketGate$Line" 23, .string "PacketGate$RuleReader" 34, .string "PacketGate$RuleReader" 43, .string "PacketGate$RuleReader" 48]
def tmF (i : Nat) : Term := tmL.getD i (.int 0)
theorem st_len : ∀ i, i < 4 → tx_l.getD i 0 < 2 ^ 31 := by decide
set_option maxHeartbeats 4000000 in
set_option maxRecDepth 100000 in
/-- what the Statement gives of the start: texts, the table of limits, two statics -/
theorem law_gX {s : State} {b : Nat} (hts : ∀ w ∈ lw_tbl, w.before #[Value.ref b] s = true) (hgv : (Jvm.Cond.and given_1 narrow_1).before #[Value.ref b] s = true) : ∃ G : gG, gX (fun q : Nat => s.heap.size ≤ q) G s := by
  have hw : ∀ (i : Nat) (w : Cond), tables_1[i]? = some w → w.before #[Value.ref b] s = true := fun i w h => hts w (List.mem_append_right _ (List.mem_of_getElem? h))
  have hs := flat_of_before _ hgv
  have hA : ∀ a : Nat, a < s.heap.size → ¬ (fun q : Nat => s.heap.size ≤ q) a := fun a h => Nat.not_le.mpr h
  obtain ⟨adK, adV, hSS, had⟩ := vk_Sof (args := #[Value.ref b]) (s := s) (N := 4) (tm := tmF) (len := tx_l) (byt := tx_b) (A := (fun q : Nat => s.heap.size ≤ q)) st_len
    (fun i hi => hs _ ((by decide +kernel : ∀ i, i < 4 → (Cond.exactly (tmF i) "java/lang/String") ∈ _) i hi))
    (fun i hi => hs _ ((by decide +kernel : ∀ i, i < 4 → (Cond.eq (.field (tmF i) "java/lang/String" "coder" "B") (.int 0)) ∈ _) i hi))
    (fun i hi => hs _ ((by decide +kernel : ∀ i, i < 4 → (Cond.arrayOf (.field (tmF i) "java/lang/String" "value" "[B") .byte) ∈ _) i hi))
    (fun i hi => hs _ ((by decide +kernel : ∀ i, i < 4 → (Cond.eq (.length (.field (tmF i) "java/lang/String" "value" "[B")) (.int (Int32.ofNat (tx_l.getD i 0)))) ∈ _) i hi))
    (fun i hi j hj => hs _ ((by decide +kernel : ∀ i, i < 4 → ∀ j, j < tx_l.getD i 0 → (Cond.eq (.elem (.field (tmF i) "java/lang/String" "value" "[B") (.int (Int32.ofNat j))) (.int ((tx_b.getD i []).getD j 0))) ∈ _) i hi j hj))
    (fun i j hi hj q => by
      rcases Nat.lt_or_ge i j with z | z
      · exact Or.inl (hs _ ((by decide +kernel : ∀ i, i < 4 → ∀ j, j < 4 → i < j → (Cond.not (Cond.eq (tmF i) (tmF j))) ∈ _) i hi j hj z))
      · exact Or.inr (hs _ ((by decide +kernel : ∀ j, j < 4 → ∀ i, i < 4 → j < i → (Cond.not (Cond.eq (tmF j) (tmF i))) ∈ _) j hj i hi (by omega)))) hA
  obtain ⟨t, ht, hT⟩ := va_Tof (args := #[Value.ref b]) (s := s) (tm := .static "PacketGate$Flow" "LIMITS" "[I") (ty := .int) (N := 8) (f := fun j => .int (lim_f j)) (A := (fun q : Nat => s.heap.size ≤ q)) (by decide)
    (hs (Cond.arrayOf (.static "PacketGate$Flow" "LIMITS" "[I") .int) (by decide +kernel)) (va_eqt (hs (Cond.eq (.length (.static "PacketGate$Flow" "LIMITS" "[I")) (.int (Int32.ofNat 8))) (by decide +kernel)))
    (fun j hj => va_eqt (hs _ ((by decide +kernel : ∀ j, j < 8 → (Cond.eq (.elem (.static "PacketGate$Flow" "LIMITS" "[I") (.int (Int32.ofNat j))) (.int (lim_f j))) ∈ _) j hj))) hA
  refine ⟨(adK, adV, t), ⟨va_Nw.of rfl (A := #[Value.ref b]) (hw 250 nw_0 (by decide +kernel)), va_Nw.of rfl (A := #[Value.ref b]) (hw 616 nw_1 (by decide +kernel)), va_Nw.of rfl (A := #[Value.ref b]) (hw 621 nw_2 (by decide +kernel)), va_Nw.of rfl (A := #[Value.ref b]) (hw 727 nw_3 (by decide +kernel)), va_Nw.of rfl (A := #[Value.ref b]) (hw 728 nw_4 (by decide +kernel))⟩, ⟨va_AO.of (A := #[Value.ref b]) (hw 59 (Cond.arrayOver (.object "PacketGate$Rule")) (by decide +kernel)), va_AO.of (A := #[Value.ref b]) (hw 121 (Cond.arrayOver (.object "PacketGate$Flow")) (by decide +kernel))⟩, ⟨vk_R.of (A := #[Value.ref b]) (hw 253 (Cond.stringRef "PacketGate$Line" 23 "PDSiobtue*-,0123456789") (by decide +kernel)) (had 0 (by decide)), vk_R.of (A := #[Value.ref b]) (hw 374 (Cond.stringRef "PacketGate$RuleReader" 34 "PDS") (by decide +kernel)) (had 1 (by decide)), vk_R.of (A := #[Value.ref b]) (hw 384 (Cond.stringRef "PacketGate$RuleReader" 43 "iob") (by decide +kernel)) (had 2 (by decide)), vk_R.of (A := #[Value.ref b]) (hw 385 (Cond.stringRef "PacketGate$RuleReader" 48 "tue*") (by decide +kernel)) (had 3 (by decide)), vk_R.of (A := #[Value.ref b]) (hw 442 (Cond.stringRef "PacketGate$Rule" 44 "PDS") (by decide +kernel)) (va_eqR (hs (Cond.eq (Term.string "PacketGate$RuleReader" 34) (Term.string "PacketGate$Rule" 44)) (by decide +kernel)) (had 1 (by decide))), vk_R.of (A := #[Value.ref b]) (hw 464 (Cond.stringRef "PacketGate$Rule" 56 "iob") (by decide +kernel)) (va_eqR (hs (Cond.eq (Term.string "PacketGate$RuleReader" 43) (Term.string "PacketGate$Rule" 56)) (by decide +kernel)) (had 2 (by decide))), vk_R.of (A := #[Value.ref b]) (hw 465 (Cond.stringRef "PacketGate$Rule" 58 "tue*") (by decide +kernel)) (va_eqR (hs (Cond.eq (Term.string "PacketGate$RuleReader" 48) (Term.string "PacketGate$Rule" 58)) (by decide +kernel)) (had 3 (by decide)))⟩, hSS, ?_, hT, ?_, ?_⟩
  · exact va_Zof (hw 710 (Cond.laysStatic "PacketGate$Flow" "LIMITS" "[I") (by decide +kernel)) (hw 8 _ (by decide +kernel)) ht hA
  · exact va_Zof (hw 267 (Cond.laysStatic "java/lang/String" "COMPACT_STRINGS" "Z") (by decide +kernel)) (hw 11 _ (by decide +kernel)) (va_eqt (hs (Cond.eq (.static "java/lang/String" "COMPACT_STRINGS" "Z") (.int 1)) (by decide +kernel))) hA
  · exact va_Zqof (hw 310 (Cond.laysStatic "jdk/internal/util/Preconditions" "SIOOBE_FORMATTER" "Ljava/util/function/BiFunction;") (by decide +kernel)) (hw 15 _ (by decide +kernel)) (hs (Cond.isRef (.static "jdk/internal/util/Preconditions" "SIOOBE_FORMATTER" "Ljava/util/function/BiFunction;")) (by decide +kernel)) hA
set_option maxHeartbeats 4000000 in
set_option maxRecDepth 100000 in
theorem law_K {s : State} {b : Nat} (hts : ∀ w ∈ lw_tbl, w.before #[Value.ref b] s = true) : ∃ (D : va_G) (ca : Nat → ClassId), va_K D cls (tyL ca) s := by
  have hw : ∀ (i : Nat) (w : Cond), tables_1[i]? = some w → w.before #[Value.ref b] s = true := fun i w h => hts w (List.mem_append_right _ (List.mem_of_getElem? h))
  have htl : ∀ w ∈ LW, w.before #[Value.ref b] s = true := fun w h => hts w (List.mem_filter.mp h).1
  have hKn : ∀ (k : Nat) (q : vw_C), cls[k]? = some q → ∃ (cC : ClassId) (iS : Nat → Nat), u_Kn s q.1 q.2.1 q.2.2 cC iS := by
    intro k q hq
    match k, hq with
    | 0, hq => cases hq; exact u_known (C := R_As) (T := F_As) (N := 5) (n := 5) htl i_As (htl _ k_167)
    | 1, hq => cases hq; exact u_known (C := R_Ex) (T := F_Ex) (N := 4) (n := 4) htl i_Ex (htl _ k_95)
    | 2, hq => cases hq; exact u_known (C := R_Fl) (T := F_Fl) (N := 8) (n := 8) htl i_Fl (htl _ k_122)
    | 3, hq => cases hq; exact u_known (C := R_Ft) (T := F_Ft) (N := 2) (n := 2) htl i_Ft (htl _ k_115)
    | 4, hq => cases hq; exact u_known (C := R_Li) (T := F_Li) (N := 2) (n := 2) htl i_Li (htl _ k_26)
    | 5, hq => cases hq; exact u_known (C := R_Ru) (T := F_Ru) (N := 5) (n := 5) htl i_Ru (htl _ k_60)
    | 6, hq => cases hq; exact u_known (C := R_Rb) (T := F_Rb) (N := 2) (n := 2) htl i_Rb (htl _ k_53)
    | 7, hq => cases hq; exact u_known (C := R_Rr) (T := F_Rr) (N := 1) (n := 1) htl i_Rr (htl _ k_42)
    | 8, hq => cases hq; exact u_known (C := R_Pg) (T := F_Pg) (N := 15) (n := 15) htl i_Pg (htl _ k_18)
    | 9, hq => cases hq; exact u_known (C := R_Mo) (T := F_Mo) (N := 44) (n := 44) htl i_Mo (htl _ k_738)
    | k + 10, hq => simp [cls] at hq
  have h0 : ∀ k : Nat, ∃ z : ClassId × (Nat → Nat), ∀ q : vw_C, cls[k]? = some q → u_Kn s q.1 q.2.1 q.2.2 z.1 z.2 := by
    intro k
    by_cases h : ∃ q : vw_C, cls[k]? = some q
    · obtain ⟨q, e⟩ := h
      obtain ⟨cC, iS, h1⟩ := hKn k q e
      exact ⟨(cC, iS), fun q2 e2 => by rw [e] at e2; cases e2; exact h1⟩
    · exact ⟨((0 : Nat), fun _ => 0), fun q e => absurd ⟨q, e⟩ h⟩
  obtain ⟨f, hf⟩ := Classical.axiomOfChoice h0
  obtain ⟨cI, kI, compI, i1, i2, i3⟩ := Cond.arrayClass_spec (show (Cond.arrayClass .int).before #[Value.ref b] s = true from hw 85 _ (by decide +kernel))
  obtain ⟨cC, kC, compC, c1, c2, c3⟩ := Cond.arrayClass_spec (show (Cond.arrayClass .char).before #[Value.ref b] s = true from hw 40 _ (by decide +kernel))
  obtain ⟨compR, cR, kR, r1, -, r2, r3, r4⟩ := Cond.arrayOver_spec (show (Cond.arrayOver (.object "PacketGate$Rule")).before #[Value.ref b] s = true from hw 59 _ (by decide +kernel))
  obtain ⟨compF, cF, kF, f1, -, f2, f3, f4⟩ := Cond.arrayOver_spec (show (Cond.arrayOver (.object "PacketGate$Flow")).before #[Value.ref b] s = true from hw 121 _ (by decide +kernel))
  refine ⟨(fun k => (f k).1, fun k => (f k).2), fun k => if k = 0 then cI else if k = 1 then cC else if k = 2 then cR else cF, fun k q h => hf k q h, fun k q h => ?_⟩
  match k, h with
  | 0, h => cases h; exact ⟨fun n z => ⟨fun k h => (by cases h), kI, i2, compI, i3⟩, i1⟩
  | 1, h => cases h; exact ⟨fun n z => ⟨fun k h => (by cases h), kC, c2, compC, c3⟩, c1⟩
  | 2, h => cases h; exact ⟨fun n z => ⟨fun k h => (by cases h), kR, r2, compR, r3⟩, kR, compR, r2, r3, r1, r4⟩
  | 3, h => cases h; exact ⟨fun n z => ⟨fun k h => (by cases h), kF, f2, compF, f3⟩, kF, compF, f2, f3, f1, f4⟩
  | k + 4, h => simp at h
set_option maxHeartbeats 4000000 in
set_option maxRecDepth 100000 in
/-- the law, from its entry -/
theorem whole_start {p : Program} {e : Env} {s : State} {m : MethodId} {below : List Frame} {meth : Method} {c : Code} (l : Launch) {b L : Nat} {xs : Nat → Int32} (hL : L ≤ 3072) (C0 : lw_At p s m meth c b L xs) : W p l e room_1 s m #[Value.ref b] below meth c s.heap [] 0 0 (lw_Z below #[Value.ref b] s) (entryFrame m ([Value.ref b] : List Value).toArray 4) := by
  obtain ⟨hx, hb, hr, hml, hown, hts, hX, hbl, hlocks, hgv⟩ := id C0
  obtain ⟨G, hG⟩ := law_gX hts hgv
  obtain ⟨D, ca, hK⟩ := law_K hts
  have htl : ∀ w ∈ LW, w.before #[Value.ref b] s = true := fun w hw => hts w (List.mem_filter.mp hw).1
  have htc : ∀ w ∈ (Cond.initialized "PacketGateLaw") :: LW, w.before #[Value.ref b] s = true := fun w hw => (List.mem_cons.mp hw).elim (fun q => by rw [q]; exact htl _ k_0) (htl w)
  have hown : s.vm.findClass "PacketGateLaw" = some m.cls := hown
  have hl := lv_entry ([.ref b]) (n := 4) (Nat.le_of_ble_eq_true rfl)
  rw [lg_entry_eq]
  generalize (lg_sl ([.ref b]) ++ List.replicate (4 - (lg_sl ([.ref b])).length) Slot.unset).toArray = ls at hl ⊢
  have hl : lv_has ls 4 [(0, .ref b)] := hl
  refine law_new (A := (fun q : Nat => s.heap.size ≤ q)) (N := s.heap.size) (M := fun _ => none) hx hb hml hown htc hK (fun q h => h) hG ⟨rfl, fun k x h => by cases h⟩ va_S.rf (fun q h => h) hl (fun M1 H locs ls hLS hP hS hl => ?_)
  exact law_loop hL C0 hK hG (N := s.heap.size + 112) (fun q h => Nat.le_trans (Nat.le_add_right _ _) h) (L + 1) 0 0 M1 H locs ls (by omega) (by omega) (Nat.le_refl _) hLS hP hS hl
