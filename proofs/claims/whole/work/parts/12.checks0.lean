/-! The tables hold: what the Statement's words say of the program, checked by evaluation. -/
def iv_isN (w : Cond) : Bool := match w with
  | .fieldLinkNest .. => true
  | .methodLinkNest .. => true
  | .declares _ => true
  | .castable .. => true
  | _ => false
def iv_Ws : List Cond := lw_tbl.filter goodWord
def iv_Ns : List Cond := lw_tbl.filter iv_isN
theorem iv_Ws_at {w : Cond} {i : Nat} (h : lw_tbl[i]? = some w) (hg : goodWord w = true) : w ∈ iv_Ws := List.mem_filter.mpr ⟨List.mem_of_getElem? h, hg⟩
theorem iv_Ns_at {w : Cond} {i : Nat} (h : lw_tbl[i]? = some w) (hg : iv_isN w = true) : w ∈ iv_Ns := List.mem_filter.mpr ⟨List.mem_of_getElem? h, hg⟩
theorem iv_Ws_good : GoodIn iv_Ws iv_Ws := fun w hw => ⟨hw, good_of_word (List.mem_filter.mp hw).2⟩
theorem iv_l2_mem {α : Type} {a b : Nat} {x : α} : ∀ {l : List (Nat × Nat × α)}, iv_l2 a b l = some x → (a, b, x) ∈ l
  | [], h => by cases h
  | q :: t, h => by
    obtain ⟨q1, q2, q3⟩ := q
    unfold iv_l2 at h
    cases hq : Nat.beq q1 a && Nat.beq q2 b with
    | true =>
      simp only [hq, cond_true, Option.some.injEq] at h
      simp only [Bool.and_eq_true] at hq
      obtain rfl := Nat.eq_of_beq_eq_true hq.1
      obtain rfl := Nat.eq_of_beq_eq_true hq.2
      subst h
      exact List.mem_cons_self ..
    | false =>
      simp only [hq, cond_false] at h
      exact List.mem_cons_of_mem _ (iv_l2_mem h)
theorem iv_lk_mem {pc : Nat} {ins : Instr} : ∀ {l : List (Nat × Instr)}, iv_lk pc l = some ins → (pc, ins) ∈ l
  | [], h => by cases h
  | q :: t, h => by
    obtain ⟨q1, q2⟩ := q
    unfold iv_lk at h
    cases hq : Nat.beq q1 pc with
    | true =>
      simp only [hq, cond_true, Option.some.injEq] at h
      obtain rfl := Nat.eq_of_beq_eq_true hq
      subst h
      exact List.mem_cons_self ..
    | false =>
      simp only [hq, cond_false] at h
      exact List.mem_cons_of_mem _ (iv_lk_mem h)
-- the code
def iv_sw (ins : Instr) : Bool := match ins with
  | .tableswitch .. => true
  | .lookupswitch .. => true
  | _ => false
def iv_sz (ins : Instr) : Nat := match ins with
  | .bipush _ => 2
  | .ldc _ => 2
  | .iload _ => 2
  | .aload _ => 2
  | .istore _ => 2
  | .astore _ => 2
  | .newarray _ => 2
  | .sipush _ => 3
  | .iinc _ _ => 3
  | .goto _ => 3
  | .ifCond _ _ => 3
  | .if_icmp _ _ => 3
  | .getfield _ => 3
  | .putfield _ => 3
  | .getstatic _ => 3
  | .invokevirtual _ => 3
  | .invokestatic _ => 3
  | .invokespecial _ => 3
  | .new _ => 3
  | .anewarray _ => 3
  | _ => 1
def iv_dc (b : ByteArray) (q : Nat × Instr) : Bool := match decode b q.1 with
  | .ok (ins, l) => decide (ins = q.2) && (iv_sw ins || Nat.beq l (iv_sz ins))
  | .error _ => false
