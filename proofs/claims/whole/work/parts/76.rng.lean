/-! Ranges of arguments; what a call that only asks leaves. -/
def inr (a : Int32) (m : Nat) : Bool := !(Op.ifCond.holds .lt a) && !(Op.if_icmp.holds .gt a (Int32.ofNat m))
theorem ge_gt (a : Int32) {m : Nat} (hm : m < 2 ^ 30) : Op.if_icmp.holds .ge a (Int32.ofNat (m + 1)) = Op.if_icmp.holds .gt a (Int32.ofNat m) := by
  have h : (Int32.ofNat (m + 1) ≤ a) ↔ (Int32.ofNat m < a) := by
    rw [Int32.le_iff_toInt_le, Int32.lt_iff_toInt_lt, Int32.toInt_ofNat_of_lt (by omega), Int32.toInt_ofNat_of_lt (by omega)]
    omega
  show decide (Int32.ofNat (m + 1) ≤ a) = decide (Int32.ofNat m < a)
  exact decide_eq_decide.mpr h
theorem inr_t {a : Int32} {m : Nat} (hm : m < 2 ^ 30) (h : inr a m = true) : ∃ c : Nat, c ≤ m ∧ a = Int32.ofNat c := by
  unfold inr at h
  cases h1 : Op.ifCond.holds .lt a
  · cases h2 : Op.if_icmp.holds .gt a (Int32.ofNat m)
    · have k1 : ¬ (a < 0) := of_decide_eq_false h1
      have k2 : ¬ (Int32.ofNat m < a) := of_decide_eq_false h2
      rw [Int32.lt_iff_toInt_lt] at k1 k2
      rw [Int32.toInt_ofNat_of_lt (by omega)] at k2
      have z : (0 : Int32).toInt = 0 := rfl
      rw [z] at k1
      refine ⟨a.toInt.toNat, by omega, of_toInt (by omega) (by omega)⟩
    · rw [h1, h2] at h
      cases h
  · rw [h1] at h
    cases h
theorem inr_n {c m : Nat} (hm : m < 2 ^ 30) (h : c ≤ m) : inr (Int32.ofNat c) m = true := by
  unfold inr
  rw [nn_lt (by omega), is_gt (by omega) (by omega), decide_eq_false (by omega)]
  rfl
theorem x43_eq (g : im_M) (a : Int32) : x43 g a = some (bif inr a 3 then .inr 0 else .inl 0, g) := by
  have e : Op.if_icmp.holds .ge a (4 : Int32) = Op.if_icmp.holds .gt a (Int32.ofNat 3) := ge_gt a (m := 3) (by decide)
  unfold x43 x43_1 x44 inr
  rw [e]
  cases Op.ifCond.holds .lt a <;> cases Op.if_icmp.holds .gt a (Int32.ofNat 3) <;> rfl
theorem x64_eq (g : im_M) (a : Int32) : x64 g a = some (bif inr a 3 then .inr 0 else .inl 0, g) := by
  have e : Op.if_icmp.holds .ge a (4 : Int32) = Op.if_icmp.holds .gt a (Int32.ofNat 3) := ge_gt a (m := 3) (by decide)
  unfold x64 x64_1 x44 inr
  rw [e]
  cases Op.ifCond.holds .lt a <;> cases Op.if_icmp.holds .gt a (Int32.ofNat 3) <;> rfl
theorem x49_eq (g : im_M) (a : Int32) : x49 g a = some (bif inr a 2 then .inr 0 else .inl 0, g) := by
  have e : Op.if_icmp.holds .ge a (3 : Int32) = Op.if_icmp.holds .gt a (Int32.ofNat 2) := ge_gt a (m := 2) (by decide)
  unfold x49 x49_1 x44 inr
  rw [e]
  cases Op.ifCond.holds .lt a <;> cases Op.if_icmp.holds .gt a (Int32.ofNat 2) <;> rfl
theorem x86_in (u : im_M) (a : Int32) (m : Nat) : x86 u a (Int32.ofNat m) = some (bi (inr a m), u) := x86_eq u a (Int32.ofNat m)
theorem iR_q {N : Nat} {g u u' : im_M} (h : iR N g u) (b1 : ∀ q : Nat, q ≠ 37 → u' q = u q) (b2 : ∀ i : Nat, i ≠ 1 → u' 37 i = u 37 i) : iR (N + 1) g u' := by
  obtain ⟨n, d, hn, hd, hd2, h00, hu0, hJ, hby, hy, hb7, hp, hf, hX, hC, hZ, hT, hF, hQ⟩ := h
  refine ⟨n, d, by omega, hd, hd2, h00, (b2 0 (by decide)).trans hu0, ?_, hby, hy.trans (b2 19 (by decide)).symm, hb7.trans (b2 27 (by decide)).symm, hp.trans (b2 28 (by decide)).symm, hf.trans (b2 29 (by decide)).symm, iX_fr hX rfl (b2 20 (by decide)) (b2 21 (by decide)), ?_, ?_, ?_, ?_, ?_⟩
  · exact iJ_le (iJ_fr hJ rfl rfl (b2 2 (by decide)) (b2 22 (by decide)) (b1 54 (by decide)) (b1 55 (by decide)) (b1 56 (by decide)) (b1 57 (by decide))) (by omega)
  · intro c hc
    exact iC_fr (hC c hc) rfl rfl rfl rfl rfl (b1 _ (by decide)) (b1 _ (by decide)) (b1 _ (by decide)) (b1 _ (by decide)) (b1 _ (by decide)) (b1 _ (by decide)) (b1 _ (by decide))
  · intro m k h1 h2 h3
    exact iZ_fr (hZ m k h1 h2 h3) (b1 _ (by decide)) (b1 _ (by decide)) (b1 _ (by decide))
  · intro t ht
    exact iT_fr (hT t ht) rfl rfl (fun c hc => by rw [b1 _ (by decide)]) (by rw [b1 _ (by decide)]) (by rw [b1 _ (by decide)])
  · exact iF_fr hF rfl (b1 _ (by decide)) (b1 _ (by decide)) (b1 _ (by decide))
  · intro c hc t ht
    exact iQ1_fr (hQ c hc t ht) rfl (b1 _ (by decide)) (b1 _ (by decide))
theorem iR_f {N : Nat} {g u : im_M} (v : Int32) (h : iR N g u) : iR (N + 1) g (im_w u 37 1 v) := iR_q h (fun q hq => im_w_o _ _ _ hq) (fun i hi => im_w_k _ _ _ hi)
theorem se_l {α β γ : Type} {f : α → γ} {k : β → γ} (z : α) : Sum.elim f k (.inl z) = f z := rfl
theorem se_r {α β γ : Type} {f : α → γ} {k : β → γ} (v : β) : Sum.elim f k (.inr v) = k v := rfl
