section C45
variable {l : Launch} {D : va_G} {ca : Nat → ClassId} {A : Nat → Prop} {G : gG} {N : Nat} {M : gm_M}

/-! the window of accepted numbers against the list of them -/
def bI (x : Int32) (j : Nat) : Prop := x.toBitVec.getLsbD j = true
theorem bI_one : ∀ i, i < 32 → (nI 1).toBitVec.getLsbD i = decide (i = 0) := by decide +kernel
theorem bI_cnt : ∀ j, j < 32 → (((nI j).toUInt32 &&& Int32.toUInt32 31).toBitVec % 32#32).toNat = j := by decide +kernel
theorem bI_cnl : ∀ j, j < 32 → ((nI j &&& 31).toBitVec.smod 32#32).toNat = j := by decide +kernel
theorem bI_low (y : Int32) : ¬ y &&& nI 1 = 0 ↔ bI y 0 := by
  have key : ∀ i, i < 32 → (y &&& nI 1).toBitVec.getLsbD i = (y.toBitVec.getLsbD i && decide (i = 0)) := fun i hi => by
    rw [Int32.toBitVec_and, BitVec.getLsbD_and, bI_one i hi]
  constructor
  · intro h
    refine Classical.byContradiction (fun q => h ?_)
    have q : y.toBitVec.getLsbD 0 = false := by
      cases e : y.toBitVec.getLsbD 0 with
      | false => rfl
      | true => exact absurd e q
    refine Int32.toBitVec_inj.mp (BitVec.eq_of_getLsbD_eq (fun i hi => ?_))
    rw [key i hi]
    by_cases z : i = 0
    · rw [z, q]; decide
    · rw [decide_eq_false z, Bool.and_false]; exact (BitVec.getLsbD_zero).symm
  · intro h e
    have := key 0 (by decide)
    rw [e, show y.toBitVec.getLsbD 0 = true from h] at this
    exact absurd this (by decide)
theorem bI_get {x : Int32} {j : Nat} (hj : j < 32) : (¬ (x.toUInt32 >>> ((nI j).toUInt32 &&& Int32.toUInt32 31)).toInt32 &&& nI 1 = 0) ↔ bI x j := by
  rw [bI_low]
  have e : (x.toUInt32 >>> ((nI j).toUInt32 &&& Int32.toUInt32 31)).toInt32.toBitVec.getLsbD 0 = x.toBitVec.getLsbD j := by
    show (x.toUInt32 >>> ((nI j).toUInt32 &&& Int32.toUInt32 31)).toBitVec.getLsbD 0 = x.toUInt32.toBitVec.getLsbD j
    rw [UInt32.toBitVec_shiftRight]
    show (x.toUInt32.toBitVec >>> (((nI j).toUInt32 &&& Int32.toUInt32 31).toBitVec % 32#32).toNat).getLsbD 0 = _
    rw [bI_cnt j hj, BitVec.getLsbD_ushiftRight]; rfl
  unfold bI
  rw [e]
theorem bI_sh {x : Int32} {d j : Nat} (hd : d < 32) (hj : j < 32) : bI (x <<< (nI d &&& 31)) j ↔ d ≤ j ∧ bI x (j - d) := by
  unfold bI
  have e : (x <<< (nI d &&& 31)).toBitVec.getLsbD j = (decide (d ≤ j) && x.toBitVec.getLsbD (j - d)) := by
    rw [Int32.toBitVec_shiftLeft]
    show (x.toBitVec <<< ((nI d &&& 31).toBitVec.smod 32#32).toNat).getLsbD j = _
    rw [bI_cnl d hd, BitVec.getLsbD_shiftLeft]
    by_cases z : d ≤ j
    · rw [decide_eq_true z, decide_eq_true hj, decide_eq_false (Nat.not_lt.mpr z)]; rfl
    · rw [decide_eq_false z, decide_eq_true (Nat.lt_of_not_le z)]; simp
  rw [e, Bool.and_eq_true, decide_eq_true_iff]
theorem bI_or {x y : Int32} {j : Nat} : bI (x ||| y) j ↔ bI x j ∨ bI y j := by
  unfold bI
  rw [Int32.toBitVec_or, BitVec.getLsbD_or, Bool.or_eq_true]
theorem bI_1 {j : Nat} (hj : j < 32) : bI (nI 1) j ↔ j = 0 := by
  unfold bI
  rw [bI_one j hj, decide_eq_true_iff]
theorem bI_0 {j : Nat} : ¬ bI (nI 0) j := by
  unfold bI
  rw [show (nI 0).toBitVec = 0#32 from rfl, BitVec.getLsbD_zero]
  decide
theorem topA_ge {aA aS : Nat → Nat} {a : Nat} : ∀ n k, k < n → aA k = a → aS k ≤ topA aA aS a n := by
  intro n
  induction n with
  | zero => intro k h; exact absurd h (Nat.not_lt_zero _)
  | succ n ih =>
    intro k h h2
    rw [topA]
    by_cases q : k = n
    · subst q; split <;> omega
    · have := ih k (by omega) h2; split <;> omega
theorem topA_cong {aA aS bA bS : Nat → Nat} {a : Nat} : ∀ n, (∀ k, k < n → aA k = bA k ∧ aS k = bS k) → topA aA aS a n = topA bA bS a n := by
  intro n
  induction n with
  | zero => intro _; rfl
  | succ n ih =>
    intro h
    rw [topA, topA, ih (fun k hk => h k (by omega)), (h n (by omega)).1, (h n (by omega)).2]
theorem topA_no {aA aS : Nat → Nat} {a : Nat} : ∀ n, (∀ k, k < n → aA k ≠ a) → topA aA aS a n = 0 := by
  intro n
  induction n with
  | zero => intro _; rfl
  | succ n ih =>
    intro h
    rw [topA, ih (fun k hk => h k (by omega)), if_neg (fun q => h n (by omega) q.1)]
def win (aA aS : Nat → Nat) (na a tp : Nat) (ac : Int32) : Prop := topA aA aS a na = tp ∧ ∀ j, j < 32 → (bI ac j ↔ ∃ k, k < na ∧ aA k = a ∧ aS k + j = tp)
theorem win_new {aA aS : Nat → Nat} {na a : Nat} (h : ∀ k, k < na → aA k ≠ a) : win aA aS na a 0 (nI 0) := ⟨topA_no _ h, fun j _ => ⟨fun q => absurd q bI_0, fun ⟨k, h1, h2, _⟩ => absurd h2 (h k h1)⟩⟩
theorem win_old {aA aS : Nat → Nat} {na a tp sq : Nat} {ac : Int32} (h : win aA aS na a tp ac) : repl tp sq ac ↔ oldM aA aS na a sq := by
  unfold repl oldM
  constructor
  · rintro ⟨h1, h2⟩
    by_cases z : 32 ≤ tp - sq
    · exact Or.inl (by rw [h.1]; omega)
    · have hb := (bI_get (by omega)).mp (h2.resolve_left z)
      obtain ⟨k, k1, k2, k3⟩ := (h.2 _ (by omega)).mp hb
      exact Or.inr ⟨k, k1, k2, by omega⟩
  · rintro (h1 | ⟨k, k1, k2, k3⟩)
    · rw [h.1] at h1; exact ⟨by omega, Or.inl (by omega)⟩
    · have := topA_ge (aA := aA) (aS := aS) na k k1 k2
      rw [h.1] at this
      refine ⟨by omega, ?_⟩
      by_cases z : 32 ≤ tp - sq
      · exact Or.inl z
      · exact Or.inr ((bI_get (by omega)).mpr ((h.2 _ (by omega)).mpr ⟨k, k1, k2, by omega⟩))
theorem up_lt {f : Nat → Nat} {n v k : Nat} (h : k < n) : va_up f n v k = f k := va_up_ne _ _ (by omega)
theorem win_other {aA aS : Nat → Nat} {na a b tp sq : Nat} {ac : Int32} (h : win aA aS na b tp ac) (hb : b ≠ a) : win (va_up aA na a) (va_up aS na sq) (na + 1) b tp ac := by
  constructor
  · rw [topA, va_up_self, if_neg (fun q => hb q.1.symm), ← h.1]
    exact topA_cong _ (fun k hk => ⟨up_lt hk, up_lt hk⟩)
  · intro j hj
    rw [h.2 j hj]
    constructor
    · rintro ⟨k, k1, k2, k3⟩
      exact ⟨k, by omega, by rw [up_lt k1]; exact k2, by rw [up_lt k1]; exact k3⟩
    · rintro ⟨k, k1, k2, k3⟩
      by_cases q : k = na
      · subst q; rw [va_up_self] at k2; exact absurd k2.symm hb
      · rw [up_lt (by omega)] at k2 k3; exact ⟨k, by omega, k2, k3⟩
theorem win_acc {aA aS : Nat → Nat} {na a tp sq : Nat} {ac : Int32} (h : win aA aS na a tp ac) (hn : ¬ repl tp sq ac) : win (va_up aA na a) (va_up aS na sq) (na + 1) a (if tp < sq then sq else tp) (accB tp sq ac) := by
  constructor
  · rw [topA, va_up_self, va_up_self, topA_cong (bA := aA) (bS := aS) na (fun k hk => ⟨up_lt hk, up_lt hk⟩), h.1]
    by_cases z : tp < sq
    · rw [if_pos ⟨rfl, z⟩, if_pos z]
    · rw [if_neg (fun q => z q.2), if_neg z]
  · intro j hj
    have hex : (∃ k, k < na + 1 ∧ va_up aA na a k = a ∧ va_up aS na sq k + j = (if tp < sq then sq else tp)) ↔ (sq + j = (if tp < sq then sq else tp)) ∨ ∃ k, k < na ∧ aA k = a ∧ aS k + j = (if tp < sq then sq else tp) := by
      constructor
      · rintro ⟨k, k1, k2, k3⟩
        by_cases q : k = na
        · subst q; rw [va_up_self] at k3; exact Or.inl k3
        · rw [up_lt (by omega)] at k2 k3; exact Or.inr ⟨k, by omega, k2, k3⟩
      · rintro (q | ⟨k, k1, k2, k3⟩)
        · exact ⟨na, by omega, va_up_self _ _ _, by rw [va_up_self]; exact q⟩
        · exact ⟨k, by omega, by rw [up_lt k1]; exact k2, by rw [up_lt k1]; exact k3⟩
    rw [hex]
    have hle : ∀ k, k < na → aA k = a → aS k ≤ tp := fun k k1 k2 => by have := topA_ge (aA := aA) (aS := aS) na k k1 k2; rw [h.1] at this; exact this
    unfold accB
    by_cases z : tp < sq
    · rw [if_pos z, if_pos z]
      by_cases y : sq - tp < 32
      · rw [if_pos y, bI_or, bI_sh y hj, bI_1 hj]
        constructor
        · rintro (⟨q1, q2⟩ | q)
          · obtain ⟨k, k1, k2, k3⟩ := (h.2 _ (by omega)).mp q2
            exact Or.inr ⟨k, k1, k2, by omega⟩
          · exact Or.inl (by omega)
        · rintro (q | ⟨k, k1, k2, k3⟩)
          · exact Or.inr (by omega)
          · have := hle k k1 k2
            exact Or.inl ⟨by omega, (h.2 _ (by omega)).mpr ⟨k, k1, k2, by omega⟩⟩
      · rw [if_neg y, bI_1 hj]
        constructor
        · intro q; exact Or.inl (by omega)
        · rintro (q | ⟨k, k1, k2, k3⟩)
          · omega
          · have := hle k k1 k2; omega
    · rw [if_neg z, if_neg z]
      have hd : tp - sq < 32 := Nat.lt_of_not_le (fun q => hn ⟨by omega, Or.inl q⟩)
      rw [bI_or, bI_sh hd hj, h.2 j hj]
      constructor
      · rintro (q | ⟨q1, q2⟩)
        · exact Or.inr q
        · have := (bI_1 (by omega)).mp q2; exact Or.inl (by omega)
      · rintro (q | q)
        · exact Or.inr ⟨by omega, (bI_1 (by omega)).mpr (by omega)⟩
        · exact Or.inl q
/-- what stands in the list of accepted numbers -/
def accI (aA aS : Nat → Nat) (na cn : Nat) : Prop := ∀ k, k < na → (1 ≤ aA k ∧ aA k ≤ cn) ∧ aS k ≤ 9999
theorem seal_eq {a na nr tp so ta sq au pr0 tp1 na1 cn : Nat} {aA aS em em1 em2 aA1 aS1 : Nat → Nat} {ac ac1 r0 r1 : Int32} {ru lw hw : Nat → Nat → Nat} (hw0 : win aA aS na a tp ac) (h1 : sealR tp ac nr ru lw hw em so ta sq au pr0 r0 tp1 ac1 em1) (h2 : sealM a aA aS na nr ru lw hw em so ta sq au pr0 r1 na1 aA1 aS1 em2) (hs : sq ≤ 9999) (ht : tp ≤ 9999) (hA : accI aA aS na cn) (ha : 1 ≤ a ∧ a ≤ cn) :
    r0 = r1 ∧ em1 = em2 ∧ win aA1 aS1 na1 a tp1 ac1 ∧ (∀ b tb bb, b ≠ a → win aA aS na b tb bb → win aA1 aS1 na1 b tb bb) ∧ na1 ≤ na + 1 ∧ accI aA1 aS1 na1 cn ∧ tp1 ≤ 9999 := by
  have ho := win_old (sq := sq) hw0
  unfold sealR at h1
  unfold sealM at h2
  rcases h1 with ⟨q, rfl, rfl, rfl, rfl⟩ | ⟨q, q2, rfl, rfl, rfl, rfl⟩ | ⟨q, q2, rfl, rfl, q3⟩
  · rcases h2 with ⟨z, rfl, rfl, rfl, rfl, rfl⟩ | ⟨z, _⟩ | ⟨z, _⟩
    · exact ⟨rfl, rfl, hw0, fun _ _ _ _ w => w, by omega, hA, ht⟩
    · exact absurd (ho.mp q) z
    · exact absurd (ho.mp q) z
  · rcases h2 with ⟨z, _⟩ | ⟨z, z2, rfl, rfl, rfl, rfl, rfl⟩ | ⟨z, z2, _⟩
    · exact absurd (ho.mpr z) q
    · exact ⟨rfl, rfl, hw0, fun _ _ _ _ w => w, by omega, hA, ht⟩
    · exact absurd q2 z2
  · rcases h2 with ⟨z, _⟩ | ⟨z, z2, _⟩ | ⟨z, z2, rfl, rfl, rfl, z3⟩
    · exact absurd (ho.mpr z) q
    · exact absurd z2 q2
    · rw [q3] at z3
      cases z3
      refine ⟨rfl, rfl, win_acc hw0 q, fun b tb bb hb w => win_other w hb, by omega, fun k hk => ?_, by split <;> omega⟩
      by_cases y : k = na
      · subst y; rw [va_up_self, va_up_self]; exact ⟨ha, hs⟩
      · rw [up_lt (by omega), up_lt (by omega)]; exact hA k (by omega)
/-! rules -/
theorem relU_new {nr k0 k1 k2 x1 x2 x3 z1 z2 z3 : Nat} {ru lw hw : Nat → Nat → Nat} {ma mw mp ml mh l0 h0 : Nat → Nat} (h : relU nr ru lw hw ma mw mp ml mh) : relU (nr + 1) (va_up ru nr (m3 k0 k1 k2)) (va_up lw nr (va_up (va_up (va_up l0 0 x1) 1 x2) 2 x3)) (va_up hw nr (va_up (va_up (va_up h0 0 z1) 1 z2) 2 z3)) (va_up ma nr k0) (va_up mw nr k1) (va_up mp nr k2) (va_up (va_up (va_up ml (nr * 3 + 0) x1) (nr * 3 + 1) x2) (nr * 3 + 2) x3) (va_up (va_up (va_up mh (nr * 3 + 0) z1) (nr * 3 + 1) z2) (nr * 3 + 2) z3) := by
  have e3 : ∀ (f : Nat → Nat) (a b c : Nat), va_up (va_up (va_up f 0 a) 1 b) 2 c 0 = a ∧ va_up (va_up (va_up f 0 a) 1 b) 2 c 1 = b ∧ va_up (va_up (va_up f 0 a) 1 b) 2 c 2 = c := fun f a b c => ⟨by rw [va_up_ne _ _ (by decide), va_up_ne _ _ (by decide), va_up_self], by rw [va_up_ne _ _ (by decide), va_up_self], va_up_self _ _ _⟩
  have f3 : ∀ (f : Nat → Nat) (a b c i : Nat), i < nr → (va_up (va_up (va_up f (nr * 3 + 0) a) (nr * 3 + 1) b) (nr * 3 + 2) c (i * 3) = f (i * 3) ∧ va_up (va_up (va_up f (nr * 3 + 0) a) (nr * 3 + 1) b) (nr * 3 + 2) c (i * 3 + 1) = f (i * 3 + 1) ∧ va_up (va_up (va_up f (nr * 3 + 0) a) (nr * 3 + 1) b) (nr * 3 + 2) c (i * 3 + 2) = f (i * 3 + 2)) := fun f a b c i hi => by
    refine ⟨?_, ?_, ?_⟩ <;> rw [va_up_ne _ _ (by omega), va_up_ne _ _ (by omega), va_up_ne _ _ (by omega)]
  have g3 : ∀ (f : Nat → Nat) (a b c : Nat), (va_up (va_up (va_up f (nr * 3 + 0) a) (nr * 3 + 1) b) (nr * 3 + 2) c (nr * 3) = a ∧ va_up (va_up (va_up f (nr * 3 + 0) a) (nr * 3 + 1) b) (nr * 3 + 2) c (nr * 3 + 1) = b ∧ va_up (va_up (va_up f (nr * 3 + 0) a) (nr * 3 + 1) b) (nr * 3 + 2) c (nr * 3 + 2) = c) := fun f a b c => by
    refine ⟨?_, ?_, va_up_self _ _ _⟩
    · rw [va_up_ne _ _ (by omega), va_up_ne _ _ (by omega)]; exact va_up_self _ _ _
    · rw [va_up_ne _ _ (by omega), va_up_self]
  intro i hi
  by_cases q : i = nr
  · subst q
    obtain ⟨a1, a2, a3⟩ := g3 ml x1 x2 x3
    obtain ⟨b1, b2, b3⟩ := g3 mh z1 z2 z3
    obtain ⟨c1, c2, c3⟩ := e3 l0 x1 x2 x3
    obtain ⟨d1, d2, d3⟩ := e3 h0 z1 z2 z3
    rw [a1, a2, a3, b1, b2, b3]
    simp only [va_up_self (f := ru), va_up_self (f := lw), va_up_self (f := hw), va_up_self (f := ma), va_up_self (f := mw), va_up_self (f := mp)]
    rw [c1, c2, c3, d1, d2, d3]
    exact ⟨rfl, rfl, rfl, rfl, rfl, rfl, rfl, rfl, rfl⟩
  · obtain ⟨a1, a2, a3⟩ := f3 ml x1 x2 x3 i (by omega)
    obtain ⟨b1, b2, b3⟩ := f3 mh z1 z2 z3 i (by omega)
    rw [a1, a2, a3, b1, b2, b3, va_up_ne _ _ q, va_up_ne _ _ q, va_up_ne _ _ q, va_up_ne _ _ q, va_up_ne _ _ q, va_up_ne _ _ q]
    exact h i (by omega)
theorem relU_low {nr : Nat} {ru lw hw : Nat → Nat → Nat} {ma mw mp ml mh l1 h1 : Nat → Nat} (h : relU nr ru lw hw ma mw mp ml mh) : relU nr ru (va_up lw nr l1) (va_up hw nr h1) ma mw mp ml mh := by
  intro i hi
  rw [va_up_ne _ _ (by omega), va_up_ne _ _ (by omega)]
  exact h i hi
theorem relU_rm {nr k : Nat} {ru lw hw : Nat → Nat → Nat} {ma mw mp ml mh : Nat → Nat} (h : relU nr ru lw hw ma mw mp ml mh) (hk : k < nr) : relU (nr - 1) (rot ru k nr) (rot lw k nr) (rot hw k nr) (shf ma k (nr - 1)) (shf mw k (nr - 1)) (shf mp k (nr - 1)) (sh3 ml k (nr - 1)) (sh3 mh k (nr - 1)) := by
  intro i hi
  rw [rot_x, rot_x, rot_x]
  by_cases q : k ≤ i
  · have er : rotx k nr i = i + 1 := by unfold rotx; rw [if_neg (by omega), if_pos ⟨q, hi⟩]
    have es : ∀ f : Nat → Nat, shf f k (nr - 1) i = f (i + 1) := fun f => by unfold shf; rw [if_pos ⟨q, hi⟩]
    have e3 : ∀ (f : Nat → Nat) (z : Nat), i * 3 ≤ z → z < i * 3 + 3 → sh3 f k (nr - 1) z = f (z + 3) := fun f z a b => by unfold sh3; rw [if_pos (by omega)]
    rw [er, es, es, es, e3 _ _ (by omega) (by omega), e3 _ _ (by omega) (by omega), e3 _ _ (by omega) (by omega), e3 _ _ (by omega) (by omega), e3 _ _ (by omega) (by omega), e3 _ _ (by omega) (by omega)]
    have := h (i + 1) (by omega)
    rw [show (i + 1) * 3 = i * 3 + 3 by omega] at this
    exact this
  · have er : rotx k nr i = i := by unfold rotx; rw [if_neg (by omega), if_neg (by omega)]
    have es : ∀ f : Nat → Nat, shf f k (nr - 1) i = f i := fun f => by unfold shf; rw [if_neg (by omega)]
    have e3 : ∀ (f : Nat → Nat) (z : Nat), i * 3 ≤ z → z < i * 3 + 3 → sh3 f k (nr - 1) z = f z := fun f z a b => by unfold sh3; rw [if_neg (by omega)]
    rw [er, es, es, es, e3 _ _ (by omega) (by omega), e3 _ _ (by omega) (by omega), e3 _ _ (by omega) (by omega), e3 _ _ (by omega) (by omega), e3 _ _ (by omega) (by omega), e3 _ _ (by omega) (by omega)]
    exact h i (by omega)
theorem okU_new {nr k0 k1 k2 : Nat} {ru lw hw : Nat → Nat → Nat} {l1 h1 : Nat → Nat} (h : okU nr ru lw hw) (hk : k0 < 3 ∧ k1 < 3 ∧ k2 < 4) (hl : ∀ q, l1 q ≤ 255) (hh : ∀ q, h1 q ≤ 255) : okU (nr + 1) (va_up ru nr (m3 k0 k1 k2)) (va_up lw nr l1) (va_up hw nr h1) := by
  refine ⟨fun i hi => ?_, fun i q => ?_⟩
  · by_cases z : i = nr
    · rw [z, va_up_self]; exact hk
    · rw [va_up_ne _ _ z]; exact h.1 i (by omega)
  · by_cases z : i = nr
    · rw [z, va_up_self, va_up_self]; exact ⟨hl q, hh q⟩
    · rw [va_up_ne _ _ z, va_up_ne _ _ z]; exact h.2 i q
theorem okU_low {nr : Nat} {ru lw hw : Nat → Nat → Nat} {l1 h1 : Nat → Nat} (h : okU nr ru lw hw) (hl : ∀ q, l1 q ≤ 255) (hh : ∀ q, h1 q ≤ 255) : okU nr ru (va_up lw nr l1) (va_up hw nr h1) := by
  refine ⟨h.1, fun i q => ?_⟩
  by_cases z : i = nr
  · rw [z, va_up_self, va_up_self]; exact ⟨hl q, hh q⟩
  · rw [va_up_ne _ _ z, va_up_ne _ _ z]; exact h.2 i q
theorem okU_rm {nr k : Nat} {ru lw hw : Nat → Nat → Nat} (h : okU nr ru lw hw) (hk : k < nr) : okU (nr - 1) (rot ru k nr) (rot lw k nr) (rot hw k nr) := by
  refine ⟨fun i hi => ?_, fun i q => ?_⟩
  · rw [rot_x]; exact h.1 _ (rotx_lt2 hk (by omega))
  · rw [rot_x, rot_x]; exact h.2 _ q
theorem rotx_17 {k n i : Nat} (hk : k < n) (hn : n ≤ 16) (hi : i < 17) : rotx k n i < 17 := by unfold rotx; split <;> (try split) <;> omega
theorem okR_rm {lo k n : Nat} {ra : Nat → Nat} (h : okR lo ra) (hk : k < n) (hn : n ≤ 16) : okR lo (rot ra k n) := by
  refine ⟨fun i hi => ?_, fun i j hi hj q => ?_⟩
  · rw [rot_x]; exact h.1 _ (rotx_17 hk hn hi)
  · rw [rot_x, rot_x]; exact h.2 _ _ (rotx_17 hk hn hi) (rotx_17 hk hn hj) (fun z => q (rotx_inj hk z))
theorem up3_le {f : Nat → Nat} {a b c : Nat} (h : ∀ q, f q ≤ 255) (ha : a ≤ 255) (hb : b ≤ 255) (hc : c ≤ 255) : ∀ q, va_up (va_up (va_up f 0 a) 1 b) 2 c q ≤ 255 := va_up_le (va_up_le (va_up_le h ha) hb) hc
end C45
