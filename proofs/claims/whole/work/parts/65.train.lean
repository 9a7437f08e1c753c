/-! A train's step on both sides. -/
def iT (g u : im_M) (t : Nat) : Prop := (∀ c : Nat, c < 4 → u 50 (4 * t + c) = g (30 + 2 * t) c &&& 7) ∧ (∃ w : Nat → Bool, g (29 + 2 * t) 2 = B3f w ∧ u 52 t = B3f w) ∧ (∃ q : Nat, q < 16 ∧ g (29 + 2 * t) 3 = Int32.ofNat q ∧ u 53 t = Int32.ofNat q)
theorem iT_fr {g u g' u' : im_M} {t : Nat} (h : iT g u t) (a1 : g' (30 + 2 * t) = g (30 + 2 * t)) (a2 : g' (29 + 2 * t) = g (29 + 2 * t)) (b1 : ∀ c : Nat, c < 4 → u' 50 (4 * t + c) = u 50 (4 * t + c)) (b2 : u' 52 t = u 52 t) (b3 : u' 53 t = u 53 t) : iT g' u' t := by
  unfold iT
  rw [a1, a2, b2, b3]
  exact ⟨fun c hc => (b1 c hc).trans (h.1 c hc), h.2⟩
theorem cn_eq {g u : im_M} {t p : Nat} {a : Int32} (hp : p < 3) (ha : a = u 37 19) (h : ∀ c : Nat, c < 4 → u 50 (4 * t + c) = g (30 + 2 * t) c &&& 7) : c_cn t p a g = m_cn t p u := by
  have e : ∀ c : Nat, c < 4 → hb (u 50 (4 * t + c)) p = hb (g (30 + 2 * t) c) p := fun c hc => by
    rw [h c hc, hb_and, hb_7 (by omega)]
    simp [hp]
  have e0 : hb (u 50 (4 * t)) p = hb (g (30 + 2 * t) 0) p := e 0 (by decide)
  unfold c_cn m_cn
  rw [e0, e 1 (by decide), e 2 (by decide), e 3 (by decide), ha]
theorem c_dd_o (t p : Nat) (a y : Int32) (g : im_M) {q : Nat} (h1 : q ≠ 1) (h2 : q ≠ 2) (h3 : q ≠ 29 + 2 * t) : c_dd t p a y g q = g q := by
  unfold c_dd
  cases decide (2 ≤ c_cn t p a g) <;> cases Op.ifCond.holds .ne (y &&& c_msk p) <;> simp only [cond_true, cond_false, c_rec_o _ _ _ _ h1 h2, im_w_o _ _ _ h3]
theorem c_dd_i (t p : Nat) (a y : Int32) (g : im_M) {i : Nat} (h : i ≠ 2) : c_dd t p a y g (29 + 2 * t) i = g (29 + 2 * t) i := by
  unfold c_dd
  cases decide (2 ≤ c_cn t p a g) <;> cases Op.ifCond.holds .ne (y &&& c_msk p) <;> simp only [cond_true, cond_false]
  · rw [c_rec_o _ _ _ _ (by omega) (by omega), im_w_k _ _ _ h]
  · rw [im_w_k _ _ _ h]
theorem c_dd_v {t p : Nat} (hp : p < 3) (a : Int32) {g : im_M} {v o : Nat → Bool} (hv : g (29 + 2 * t) 2 = B3f v) : c_dd t p a (B3f o) g (29 + 2 * t) 2 = B3f (bif decide (2 ≤ c_cn t p a g) then sb v p true else v) := by
  unfold c_dd
  rw [hv, B3_or v hp, B3_ne o hp]
  cases decide (2 ≤ c_cn t p a g)
  · exact hv
  · cases o p
    · show c_rec _ _ _ _ (29 + 2 * t) 2 = _
      rw [c_rec_o _ _ _ _ (by omega) (by omega), im_w_s]
      rfl
    · show im_w g (29 + 2 * t) 2 _ (29 + 2 * t) 2 = _
      rw [im_w_s]
      rfl
theorem c_dd_J {n E t p : Nat} (hp : p < 3) (a : Int32) {g u : im_M} {o : Nat → Bool} (hE : E < 2 ^ 30) (hJ : iJ n E g u) {D : Bool} (hD : decide (2 ≤ c_cn t p a g) = D) : iJ n (E + 1) (c_dd t p a (B3f o) g) (m_nt (D && !(o p)) 6 t p u) := by
  unfold c_dd m_nt
  rw [B3_ne o hp, hD]
  cases D
  · exact iJ_le hJ (by omega)
  · cases o p
    · exact iJ_rec (iJ_fr hJ (im_w_o _ _ _ (by omega)) (im_w_o _ _ _ (by omega)) rfl rfl rfl rfl rfl rfl) hE _ _ _
    · exact iJ_le (iJ_fr hJ (im_w_o _ _ _ (by omega)) (im_w_o _ _ _ (by omega)) rfl rfl rfl rfl rfl rfl) (by omega)
theorem c_la_o (t : Nat) (m k f : Int32) (g : im_M) {q : Nat} (h1 : q ≠ 1) (h2 : q ≠ 2) (h3 : q ≠ 29 + 2 * t) : c_la t m k f g q = g q := by
  unfold c_la
  cases Op.ifCond.holds .ne ((g (29 + 2 * t) 3) &&& m) <;> simp only [cond_true, cond_false, c_rec_o _ _ _ _ h1 h2, im_w_o _ _ _ h3]
theorem c_la_i (t : Nat) (m k f : Int32) (g : im_M) {i : Nat} (h : i ≠ 3) : c_la t m k f g (29 + 2 * t) i = g (29 + 2 * t) i := by
  unfold c_la
  cases Op.ifCond.holds .ne ((g (29 + 2 * t) 3) &&& m) <;> simp only [cond_true, cond_false]
  · rw [c_rec_o _ _ _ _ (by omega) (by omega), im_w_k _ _ _ h]
theorem c_lb_o (t : Nat) (nd m f : Int32) (g : im_M) {q : Nat} (h1 : q ≠ 1) (h2 : q ≠ 2) (h3 : q ≠ 29 + 2 * t) : c_lb t nd m f g q = g q := by
  unfold c_lb
  cases Op.if_icmp.holds .ne ((g (29 + 2 * t) 2) &&& nd) nd
  · exact c_la_o t m 8 f g h1 h2 h3
  · rfl
theorem c_lb_i (t : Nat) (nd m f : Int32) (g : im_M) {i : Nat} (h : i ≠ 3) : c_lb t nd m f g (29 + 2 * t) i = g (29 + 2 * t) i := by
  unfold c_lb
  cases Op.if_icmp.holds .ne ((g (29 + 2 * t) 2) &&& nd) nd
  · exact c_la_i t m 8 f g h
  · rfl
theorem la_tab : ∀ i : Nat, i < 4 → ∀ q : Nat, q < 16 → (Op.ifCond.holds .ne (Int32.ofNat q &&& Int32.ofNat (2 ^ i)) = hb (Int32.ofNat q) i ∧ (hb (Int32.ofNat q) i = true → q ||| 2 ^ i = q) ∧ q ||| 2 ^ i < 16) := by
  decide +kernel
theorem c_la_s {n E t q i : Nat} (hi : i < 4) (k : Int32) (f : Nat) {g u : im_M} (hE : E < 2 ^ 30) (hJ : iJ n E g u) (hq : q < 16) (hg : g (29 + 2 * t) 3 = Int32.ofNat q) :
    iJ n (E + 1) (c_la t (Int32.ofNat (2 ^ i)) k (Int32.ofNat f) g) (m_nt (!(hb (Int32.ofNat q) i)) k t f u) ∧ c_la t (Int32.ofNat (2 ^ i)) k (Int32.ofNat f) g (29 + 2 * t) 3 = Int32.ofNat (q ||| 2 ^ i) := by
  obtain ⟨h1, h2, h3⟩ := la_tab i hi q hq
  unfold c_la m_nt
  rw [hg, h1, on_or]
  cases hh : hb (Int32.ofNat q) i
  · refine ⟨iJ_rec (iJ_fr hJ (im_w_o _ _ _ (by omega)) (im_w_o _ _ _ (by omega)) rfl rfl rfl rfl rfl rfl) hE _ _ _, ?_⟩
    show c_rec _ _ _ _ (29 + 2 * t) 3 = _
    rw [c_rec_o _ _ _ _ (by omega) (by omega), im_w_s]
  · refine ⟨iJ_le hJ (by omega), ?_⟩
    rw [h2 hh]
    exact hg
theorem c_lb_s {n E t q i : Nat} (hi : i < 4) (nd : Int32) (f : Nat) {g u : im_M} (hE : E < 2 ^ 30) (hJ : iJ n E g u) (hq : q < 16) (hg : g (29 + 2 * t) 3 = Int32.ofNat q) {D : Bool} (hD : Op.if_icmp.holds .ne ((g (29 + 2 * t) 2) &&& nd) nd = !D) :
    iJ n (E + 1) (c_lb t nd (Int32.ofNat (2 ^ i)) (Int32.ofNat f) g) (m_nt (D && !(hb (Int32.ofNat q) i)) 8 t f u) ∧ c_lb t nd (Int32.ofNat (2 ^ i)) (Int32.ofNat f) g (29 + 2 * t) 3 = Int32.ofNat (bif D then q ||| 2 ^ i else q) := by
  unfold c_lb
  rw [hD]
  cases D
  · exact ⟨iJ_le hJ (by omega), hg⟩
  · exact c_la_s hi 8 f hE hJ hq hg
theorem nd_tab (a b c : Bool) : Op.if_icmp.holds .ne (B3 a b c &&& 2) 2 = !b ∧ Op.if_icmp.holds .ne (B3 a b c &&& 4) 4 = !c ∧ Op.if_icmp.holds .ne (B3 a b c &&& 3) 3 = !(a && b) := by
  cases a <;> cases b <;> cases c <;> decide
theorem lt_tab : ∀ q : Nat, q < 16 → ∀ a b c : Bool, (q ||| 2 ^ 0 < 16 ∧ (bif b then (q ||| 2 ^ 0) ||| 2 ^ 1 else (q ||| 2 ^ 0)) < 16 ∧ (bif c then (bif b then (q ||| 2 ^ 0) ||| 2 ^ 1 else (q ||| 2 ^ 0)) ||| 2 ^ 2 else (bif b then (q ||| 2 ^ 0) ||| 2 ^ 1 else (q ||| 2 ^ 0))) < 16 ∧
    hb (Int32.ofNat (q ||| 2 ^ 0)) 1 = hb (Int32.ofNat q) 1 ∧ hb (Int32.ofNat (bif b then (q ||| 2 ^ 0) ||| 2 ^ 1 else (q ||| 2 ^ 0))) 2 = hb (Int32.ofNat q) 2 ∧ hb (Int32.ofNat (bif c then (bif b then (q ||| 2 ^ 0) ||| 2 ^ 1 else (q ||| 2 ^ 0)) ||| 2 ^ 2 else (bif b then (q ||| 2 ^ 0) ||| 2 ^ 1 else (q ||| 2 ^ 0)))) 3 = hb (Int32.ofNat q) 3 ∧
    ((a || (b || c)) = true → Int32.ofNat (bif a && b then (bif c then (bif b then (q ||| 2 ^ 0) ||| 2 ^ 1 else (q ||| 2 ^ 0)) ||| 2 ^ 2 else (bif b then (q ||| 2 ^ 0) ||| 2 ^ 1 else (q ||| 2 ^ 0))) ||| 2 ^ 3 else (bif c then (bif b then (q ||| 2 ^ 0) ||| 2 ^ 1 else (q ||| 2 ^ 0)) ||| 2 ^ 2 else (bif b then (q ||| 2 ^ 0) ||| 2 ^ 1 else (q ||| 2 ^ 0)))) = (Int32.ofNat q ||| (m_run a b c ||| bi (a || (b || c))))) ∧
    ((a || (b || c)) = false → Int32.ofNat q = (Int32.ofNat q ||| (m_run a b c ||| bi (a || (b || c))))) ∧ ∃ r : Nat, r < 16 ∧ (Int32.ofNat q ||| (m_run a b c ||| bi (a || (b || c)))) = Int32.ofNat r) := by
  decide +kernel
theorem c_lat_o (t : Nat) (g : im_M) {q : Nat} (h1 : q ≠ 1) (h2 : q ≠ 2) (h3 : q ≠ 29 + 2 * t) : c_lat t g q = g q := by
  unfold c_lat
  rw [c_lb_o _ _ _ _ _ h1 h2 h3, c_lb_o _ _ _ _ _ h1 h2 h3, c_lb_o _ _ _ _ _ h1 h2 h3, c_la_o _ _ _ _ _ h1 h2 h3]
theorem c_lat_i (t : Nat) (g : im_M) {i : Nat} (h : i ≠ 3) : c_lat t g (29 + 2 * t) i = g (29 + 2 * t) i := by
  unfold c_lat
  rw [c_lb_i _ _ _ _ _ h, c_lb_i _ _ _ _ _ h, c_lb_i _ _ _ _ _ h, c_la_i _ _ _ _ _ h]
theorem c_dec0_o (t : Nat) (a y : Int32) (g : im_M) {q : Nat} (h1 : q ≠ 1) (h2 : q ≠ 2) (h3 : q ≠ 29 + 2 * t) : c_dec0 t a y g q = g q := by
  unfold c_dec0
  rw [c_dd_o _ _ _ _ _ h1 h2 h3, c_dd_o _ _ _ _ _ h1 h2 h3, c_dd_o _ _ _ _ _ h1 h2 h3]
theorem c_dec_o (t : Nat) (a : Int32) (g : im_M) {q : Nat} (h1 : q ≠ 1) (h2 : q ≠ 2) (h3 : q ≠ 29 + 2 * t) : c_dec t a g q = g q := by
  unfold c_dec
  cases Op.ifCond.holds .eq (c_dec0 t a (g (29 + 2 * t) 2) (im_w g (29 + 2 * t) 2 0) (29 + 2 * t) 2)
  · show c_lat t _ q = _
    rw [c_lat_o t _ h1 h2 h3, c_dec0_o _ _ _ _ h1 h2 h3, im_w_o _ _ _ h3]
  · show c_dec0 t _ _ _ q = _
    rw [c_dec0_o _ _ _ _ h1 h2 h3, im_w_o _ _ _ h3]
theorem m_vote_o (t : Nat) (a b c : Bool) (u : im_M) {q : Nat} (h0 : q ≠ 37) (h1 : q ≠ 54) (h2 : q ≠ 55) (h3 : q ≠ 56) (h4 : q ≠ 57) (h5 : q ≠ 52) (h6 : q ≠ 53) : m_vote t a b c u q = u q := by
  unfold m_vote m_v2 m_v1
  rw [im_w_o _ _ _ h6, m_nt_o _ _ _ _ _ h0 h1 h2 h3 h4, m_nt_o _ _ _ _ _ h0 h1 h2 h3 h4, m_nt_o _ _ _ _ _ h0 h1 h2 h3 h4, m_nt_o _ _ _ _ _ h0 h1 h2 h3 h4, im_w_o _ _ _ h5, m_nt_o _ _ _ _ _ h0 h1 h2 h3 h4, m_nt_o _ _ _ _ _ h0 h1 h2 h3 h4, m_nt_o _ _ _ _ _ h0 h1 h2 h3 h4]
theorem m_vote_37 (t : Nat) (a b c : Bool) (u : im_M) {i : Nat} (h : i ≠ 22) : m_vote t a b c u 37 i = u 37 i := by
  unfold m_vote m_v2 m_v1
  rw [im_w_o _ _ _ (show (37 : Nat) ≠ 53 by decide), m_nt_37 _ _ _ _ _ h, m_nt_37 _ _ _ _ _ h, m_nt_37 _ _ _ _ _ h, m_nt_37 _ _ _ _ _ h, im_w_o _ _ _ (show (37 : Nat) ≠ 52 by decide), m_nt_37 _ _ _ _ _ h, m_nt_37 _ _ _ _ _ h, m_nt_37 _ _ _ _ _ h]
theorem m_vote_52 (t : Nat) (a b c : Bool) (u : im_M) : m_vote t a b c u 52 = upd (u 52) t (B3 a b c) := by
  have d : ∀ (q : Bool) (k : Int32) (f : Nat) (v : im_M), m_nt q k t f v 52 = v 52 := fun q k f v => m_nt_o _ _ _ _ _ (by decide) (by decide) (by decide) (by decide) (by decide)
  unfold m_vote m_v2
  rw [im_w_o _ _ _ (show (52 : Nat) ≠ 53 by decide), d, d, d, d]
  show upd (m_v1 t a b c u 52) t (B3 a b c) = _
  unfold m_v1
  rw [d, d, d]
theorem m_vote_53 (t : Nat) (a b c : Bool) (u : im_M) : m_vote t a b c u 53 = upd (u 53) t ((u 53 t) ||| (m_run a b c ||| bi (a || (b || c)))) := by
  have d : ∀ (q : Bool) (k : Int32) (f : Nat) (v : im_M), m_nt q k t f v 53 = v 53 := fun q k f v => m_nt_o _ _ _ _ _ (by decide) (by decide) (by decide) (by decide) (by decide)
  have e : m_v2 t a b c (im_w (m_v1 t a b c u) 52 t (B3 a b c)) 53 = u 53 := by
    unfold m_v2
    rw [d, d, d, d, im_w_o _ _ _ (show (53 : Nat) ≠ 52 by decide)]
    unfold m_v1
    rw [d, d, d]
  unfold m_vote
  show upd (m_v2 t a b c (im_w (m_v1 t a b c u) 52 t (B3 a b c)) 53) t _ = _
  rw [e]
