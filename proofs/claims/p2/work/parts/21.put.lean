/-! rows of 21 numbers, written from a place on -/
def fl (f : Nat → Int64) (b : Nat) (s : Nat → Int64) (x : Nat) : Nat → Int64 := fun i => if b + x ≤ i ∧ i < b + 21 then s (i - b) else f i
theorem fl_in {f : Nat → Int64} {b : Nat} {s : Nat → Int64} {j : Nat} (hj : j < 21) : fl f b s 0 (b + j) = s j := by
  unfold fl
  rw [if_pos ⟨by omega, by omega⟩]
  congr 1; omega
theorem fl_out {f : Nat → Int64} {b : Nat} {s : Nat → Int64} {i : Nat} (h : i < b ∨ b + 21 ≤ i) : fl f b s 0 i = f i := by
  unfold fl
  rw [if_neg (fun z => by omega)]
theorem fl_end (f : Nat → Int64) (b : Nat) (s : Nat → Int64) {x : Nat} (hx : 21 ≤ x) : fl f b s x = f := by
  funext i
  unfold fl
  rw [if_neg (fun z => by omega)]
theorem fl_step (f : Nat → Int64) (b : Nat) (s : Nat → Int64) {x : Nat} (hx : x < 21) : fl (vp_updL f (b + x) (s x)) b s (x + 1) = fl f b s x := by
  funext i
  unfold fl
  rw [uL]
  by_cases h : i = b + x
  · rw [if_neg (fun z => by omega), if_pos h, if_pos ⟨by omega, by omega⟩, show i - b = x by omega]
  · rw [if_neg h]
    by_cases h2 : b + x ≤ i ∧ i < b + 21
    · rw [if_pos ⟨by omega, h2.2⟩, if_pos h2]
    · rw [if_neg (fun z => h2 ⟨by omega, z.2⟩), if_neg h2]
theorem n21 (x : Nat) (hx : x < 2147483648) : ((21 : Int32) ≤ nI x) ↔ 21 ≤ x := nI_leI (a := 21) (by omega) (by omega)
theorem m21 (a : Nat) : (21 : Int32) * nI a = nI (21 * a) := by rw [show (21 : Int32) = nI 21 from rfl, pk_mul]
theorem m32 (a b : Nat) : (32 : Int32) * nI a + nI b = nI (32 * a + b) := by rw [show (32 : Int32) = nI 32 from rfl, pk_mul, nI_add]
theorem L_put106 {p : Nat} (hp : p < 160) (Va : Nat → Int64) : ∀ (n x : Nat) (Ce : Nat → Int64), x ≤ 21 → 21 - x < n → SL_X6_put_106 n (nI x) Ce (nI p) Va ∧ (L_X6_put_106 n (nI x) Ce (nI p) Va).2 = fl Ce (21 * p) Va x := by
  intro n
  induction n with
  | zero => intro x Ce _ h; exact absurd h (Nat.not_lt_zero _)
  | succ n ih =>
    intro x Ce hx h
    rw [SL_X6_put_106, L_X6_put_106]
    by_cases hc : 21 ≤ x
    · have y : (21 : Int32) ≤ nI x := (n21 x (by omega)).mpr hc
      rw [if_pos y]
      exact ⟨⟨fun _ => True.intro, fun z => absurd y z⟩, (fl_end _ _ _ hc).symm⟩
    · have y : ¬ (21 : Int32) ≤ nI x := fun z => hc ((n21 x (by omega)).mp z)
      rw [if_neg y, m21, nI_add, clN (by omega), clN (n := x) (by omega), ← nI_succ]
      obtain ⟨s1, s2⟩ := ih (x + 1) (vp_updL Ce (21 * p + x) (Va x)) (by omega) (by omega)
      exact ⟨⟨fun z => absurd z y, fun _ => ⟨vin (by omega) (by omega), vin (by omega) (by omega), s1⟩⟩, by rw [s2, fl_step _ _ _ (by omega)]⟩
theorem L_put19 {p K : Nat} (hp : p < 160) (hK : K < 200) (Ce : Nat → Int64) : ∀ (n x : Nat) (Kc : Nat → Int64), x ≤ 21 → 21 - x < n → SL_X6_put_19 n (nI x) Kc (nI p) Ce (nI K) ∧ (L_X6_put_19 n (nI x) Kc (nI p) Ce (nI K)).2 = fl Kc (21 * K) (fun j => Ce (21 * p + j)) x := by
  intro n
  induction n with
  | zero => intro x Kc _ h; exact absurd h (Nat.not_lt_zero _)
  | succ n ih =>
    intro x Kc hx h
    rw [SL_X6_put_19, L_X6_put_19]
    by_cases hc : 21 ≤ x
    · have y : (21 : Int32) ≤ nI x := (n21 x (by omega)).mpr hc
      rw [if_pos y]
      exact ⟨⟨fun _ => True.intro, fun z => absurd y z⟩, (fl_end _ _ _ hc).symm⟩
    · have y : ¬ (21 : Int32) ≤ nI x := fun z => hc ((n21 x (by omega)).mp z)
      rw [if_neg y, m21, m21, nI_add, nI_add, clN (by omega), clN (n := 21 * p + x) (by omega), ← nI_succ]
      obtain ⟨s1, s2⟩ := ih (x + 1) (vp_updL Kc (21 * K + x) (Ce (21 * p + x))) (by omega) (by omega)
      refine ⟨⟨fun z => absurd z y, fun _ => ⟨vin (by omega) (by omega), vin (by omega) (by omega), s1⟩⟩, ?_⟩
      rw [s2]
      exact fl_step Kc (21 * K) (fun j => Ce (21 * p + j)) (by omega)
theorem L_fetch {k r : Nat} (hk : k < 5) (hr : r < 32) (Ce : Nat → Int64) : ∀ (n x : Nat) (Va : Nat → Int64), x ≤ 21 → 21 - x < n → SL_X6_fetch_2 n (nI x) Va (nI k) (nI r) Ce ∧ (L_X6_fetch_2 n (nI x) Va (nI k) (nI r) Ce).2 = fl Va 0 (fun j => Ce (21 * (32 * k + r) + j)) x := by
  intro n
  induction n with
  | zero => intro x Va _ h; exact absurd h (Nat.not_lt_zero _)
  | succ n ih =>
    intro x Va hx h
    rw [SL_X6_fetch_2, L_X6_fetch_2]
    by_cases hc : 21 ≤ x
    · have y : (21 : Int32) ≤ nI x := (n21 x (by omega)).mpr hc
      rw [if_pos y]
      exact ⟨⟨fun _ => True.intro, fun z => absurd y z⟩, (fl_end _ _ _ hc).symm⟩
    · have y : ¬ (21 : Int32) ≤ nI x := fun z => hc ((n21 x (by omega)).mp z)
      rw [if_neg y, m32, m21, nI_add, clN (n := x) (by omega), clN (by omega), ← nI_succ]
      obtain ⟨s1, s2⟩ := ih (x + 1) (vp_updL Va x (Ce (21 * (32 * k + r) + x))) (by omega) (by omega)
      refine ⟨⟨fun z => absurd z y, fun _ => ⟨vin (by omega) (by omega), vin (by omega) (by omega), s1⟩⟩, ?_⟩
      rw [s2]
      have e := fl_step Va 0 (fun j => Ce (21 * (32 * k + r) + j)) (x := x) (by omega)
      rw [Nat.zero_add] at e
      exact e
theorem fetch_at {k r : Nat} (hk : k < 5) (hr : r < 32) (Ce Va : Nat → Int64) : S_X6_fetch (nI k) (nI r) Ce Va ∧ ∀ j, j < 21 → f_X6_fetch (nI k) (nI r) Ce Va j = Ce (21 * (32 * k + r) + j) := by
  obtain ⟨s1, s2⟩ := L_fetch hk hr Ce 22 0 Va (by omega) (by omega)
  have s1 : SL_X6_fetch_2 22 0 Va (nI k) (nI r) Ce := s1
  have s2 : (L_X6_fetch_2 22 0 Va (nI k) (nI r) Ce).2 = fl Va 0 (fun j => Ce (21 * (32 * k + r) + j)) 0 := s2
  refine ⟨⟨s1, fun _ _ => True.intro⟩, fun j hj => ?_⟩
  show (L_X6_fetch_2 22 0 Va (nI k) (nI r) Ce).2 j = _
  rw [s2]
  have e := fl_in (f := Va) (b := 0) (s := fun j => Ce (21 * (32 * k + r) + j)) hj
  rw [Nat.zero_add] at e
  exact e
theorem v21 (n : Nat) (hn : n < 21) : vp_in (nI n) 21 := vin hn (by omega)
theorem S_mf (a : Int32) (Md : Nat → Int64) : S_X5_madeFits a Md := ⟨fun _ => ⟨v21 0 (by omega), True.intro⟩, fun _ => ⟨fun _ => ⟨v21 0 (by omega), True.intro⟩, fun _ => ⟨fun _ => ⟨v21 0 (by omega), fun _ => True.intro, fun _ => ⟨v21 1 (by omega), fun _ => True.intro, fun _ => ⟨v21 3 (by omega), fun _ => True.intro, fun _ => True.intro⟩⟩⟩, fun _ => True.intro⟩⟩⟩
theorem S_iw (a : Int32) (Va : Nat → Int64) : S_X6_isWithin a Va := S_mf a Va
theorem mf0 (Md : Nat → Int64) : f_X5_madeFits (nI 0) Md = f_X5_within (Md 0) (-2147483647) 2147483647 := by
  unfold f_X5_madeFits f_X5_isCount
  rw [cl0, if_pos (show nI 0 = 0 from rfl)]
theorem mf1 (Md : Nat → Int64) : f_X5_madeFits (nI 1) Md = f_X5_isLength (Md 0) := by
  unfold f_X5_madeFits
  rw [cl0, if_neg (show ¬ nI 1 = 0 from by decide), if_pos (show nI 1 = 1 from rfl)]
theorem mf2 (Md : Nat → Int64) : f_X5_madeFits (nI 2) Md = if f_X5_isLength (Md 0) = 0 then (0 : Int32) else if f_X5_isLength (Md 1) = 0 then 0 else if f_X5_isLength (Md 3) = 0 then 0 else 1 := by
  unfold f_X5_madeFits
  rw [cl0, cl1, cl3, if_neg (show ¬ nI 2 = 0 from by decide), if_neg (show ¬ nI 2 = 1 from by decide), if_pos (show nI 2 = 2 from rfl)]
theorem mf3 (Md : Nat → Int64) : f_X5_madeFits (nI 3) Md = 1 := by
  unfold f_X5_madeFits
  rw [if_neg (show ¬ nI 3 = 0 from by decide), if_neg (show ¬ nI 3 = 1 from by decide), if_neg (show ¬ nI 3 = 2 from by decide)]
theorem mf4 (Md : Nat → Int64) : f_X5_madeFits (nI 4) Md = 1 := by
  unfold f_X5_madeFits
  rw [if_neg (show ¬ nI 4 = 0 from by decide), if_neg (show ¬ nI 4 = 1 from by decide), if_neg (show ¬ nI 4 = 2 from by decide)]
theorem iw_eq : f_X6_isWithin = f_X5_madeFits := rfl
theorem fits_eq {k : Nat} (hk : k < 5) {Md Va : Nat → Int64} (h : ∀ j, j < wd k → Md j = Va j) : f_X5_madeFits (nI k) Md = f_X6_isWithin (nI k) Va := by
  rw [iw_eq]
  rcases (show k = 0 ∨ k = 1 ∨ k = 2 ∨ k = 3 ∨ k = 4 by omega) with rfl | rfl | rfl | rfl | rfl
  · rw [mf0, mf0, h 0 (by decide)]
  · rw [mf1, mf1, h 0 (by decide)]
  · rw [mf2, mf2, h 0 (by decide), h 1 (by decide), h 3 (by decide)]
  · rw [mf3, mf3]
  · rw [mf4, mf4]
theorem okV_fit {k : Nat} (hk : k < 5) {Va : Nat → Int64} (hf : ¬ f_X6_isWithin (nI k) Va = 0) (h2 : k = 2 → (0 ≤ (Va 2).toInt ∧ (Va 2).toInt ≤ 3) ∧ (0 ≤ (Va 4).toInt ∧ (Va 4).toInt ≤ 3)) (h3 : k = 3 → ∃ n, n ≤ 20 ∧ Va 0 = lN n) (h4 : k = 4 → -1 ≤ (Va 0).toInt ∧ (Va 0).toInt ≤ 999) : okV k Va := by
  rw [iw_eq] at hf
  refine ⟨fun z => ?_, fun z => ?_, fun z => ?_, h3, h4⟩ <;> subst z
  · rw [mf0] at hf
    rcases win (Va 0) (-2147483647) 2147483647 with ⟨e, b⟩ | ⟨e, b⟩
    · exact b
    · exact absurd e hf
  · rw [mf1] at hf
    rcases isLen (Va 0) with ⟨e, b⟩ | ⟨e, b⟩
    · exact b
    · exact absurd e hf
  · rw [mf2] at hf
    rcases isLen (Va 0) with ⟨e0, b0⟩ | ⟨e0, b0⟩
    · rcases isLen (Va 1) with ⟨e1, b1⟩ | ⟨e1, b1⟩
      · rcases isLen (Va 3) with ⟨e3, b3⟩ | ⟨e3, b3⟩
        · exact ⟨b0, b1, b3, (h2 rfl).1, (h2 rfl).2⟩
        · simp only [e0, e1, e3, ne10, if_false, if_true] at hf
          exact absurd trivial hf
      · simp only [e0, e1, ne10, if_false, if_true] at hf
        exact absurd trivial hf
    · simp only [e0, if_true] at hf
      exact absurd trivial hf
theorem cpy_in {α : Type} {f g : Nat → α} {sp dp n j : Nat} (hj : j < n) : va_cpy f g sp dp n (dp + j) = f (sp + j) := by
  rw [pk_cpy_in (by omega) (by omega)]
  congr 1; omega
theorem RV_put {Bc Ce Md Va : Nat → Int64} (h : RV Bc Ce) {k r : Nat} (hk : k < 5) (hr : r < 32) (hv : ∀ j, j < wd k → Md j = Va j) (ho : okV k Va) : RV (va_cpy Md Bc 0 (hm k + r * wd k) (wd k)) (fl Ce (21 * (32 * k + r)) Va 0) := by
  intro k' r' hk' hr'
  have hw := wd_le hk'
  have hw0 := wd_le hk
  by_cases hc : k' = k ∧ r' = r
  · obtain ⟨rfl, rfl⟩ := hc
    refine ⟨ho.cong hk' (fun j hj => fl_in (by omega)), fun j hj => ?_⟩
    rw [cpy_in hj, fl_in (by omega), Nat.zero_add]
    exact hv j hj
  · have e1 : ∀ j, j < 21 → fl Ce (21 * (32 * k + r)) Va 0 (21 * (32 * k' + r') + j) = Ce (21 * (32 * k' + r') + j) := fun j hj => fl_out (by
      have : 32 * k + r ≠ 32 * k' + r' := fun z => hc ⟨by omega, by omega⟩
      omega)
    refine ⟨(h k' r' hk' hr').1.cong hk' (fun j hj => e1 j (by omega)), fun j hj => ?_⟩
    rw [e1 j (by omega), pk_cpy_out ?_]
    · exact (h k' r' hk' hr').2 j hj
    · rcases Nat.lt_or_ge (hm k' + r' * wd k' + j) (hm k + r * wd k) with z | z
      · exact Or.inl z
      · rcases Nat.lt_or_ge (hm k' + r' * wd k' + j) (hm k + r * wd k + wd k) with z2 | z2
        · have z3 := cell_apart (j' := hm k' + r' * wd k' + j - (hm k + r * wd k)) hk' hr' hj hk hr (by omega) (by omega)
          exact absurd ⟨z3.1, z3.2.1⟩ hc
        · exact Or.inr z2
theorem RP_push {K : Nat} {Pk Pr Pl : Nat → Int32} {Pc : Nat → Int64} {Ko Kl : Nat → Int32} {Kc Bc Ce : Nat → Int64} (h : RP K Pk Pr Pl Pc Ko Kl Kc) (hV : RV Bc Ce) {k r : Nat} (hk : k < 5) (hr : r < 32) {lv lw : Int32} (hl : lv = lw) :
    RP (K + 1) (upd Pk K (nI k)) (upd Pr K (nI r)) (upd Pl K lv) (va_cpy Bc Pc (hm k + r * wd k) (K * 21) (wd k)) (upd Ko K (nI (32 * k + r))) (upd Kl K lw) (fl Kc (21 * K) (fun j => Ce (21 * (32 * k + r) + j)) 0) := by
  intro q hq
  have hw := wd_le hk
  by_cases z : q = K
  · subst z
    refine ⟨k, r, hk, hr, by rw [uI, if_pos rfl], by rw [uI, if_pos rfl], by rw [uI, if_pos rfl], by rw [uI, uI, if_pos rfl, if_pos rfl, hl], ?_, fun j hj => ?_⟩
    · exact (hV k r hk hr).1.cong hk (fun j hj => fl_in (by omega))
    · rw [fl_in (by omega), Nat.mul_comm 21 q, cpy_in hj]
      exact (hV k r hk hr).2 j hj
  · obtain ⟨k', r', h1, h2, h3, h4, h5, h6, h7, h8⟩ := h q (by omega)
    have hw' := wd_le h1
    have e1 : ∀ j, j < 21 → fl Kc (21 * K) (fun j => Ce (21 * (32 * k + r) + j)) 0 (21 * q + j) = Kc (21 * q + j) := fun j hj => fl_out (by omega)
    refine ⟨k', r', h1, h2, by rw [uI, if_neg z]; exact h3, by rw [uI, if_neg z]; exact h4, by rw [uI, if_neg z]; exact h5, by rw [uI, uI, if_neg z, if_neg z]; exact h6, h7.cong h1 (fun j hj => e1 j (by omega)), fun j hj => ?_⟩
    rw [e1 j (by omega), pk_cpy_out (by omega)]
    exact h8 j hj
