/-! the ties, in a table of rows at a place; what a code lets -/
def bo_T (T : Nat → Nat → Nat) (h : Nat → Nat → Int32) (pl : Nat) : Prop := ∀ k p, k < 3 → p < 12 → h pl (12 * k + p) = nI (T k p)
def sp_ok (T : Nat → Nat → Nat) : Prop := (∀ k p, k < 3 → p < 12 → T k p < 4096 ∧ (T k p).testBit p = false) ∧ ∀ k p q, k < 3 → p < 12 → q < 12 → (T k p).testBit q = (T k q).testBit p
theorem sp_ok.lt {T : Nat → Nat → Nat} (h : sp_ok T) {k p : Nat} (hk : k < 3) (hp : p < 12) : T k p < 4096 := (h.1 k p hk hp).1
def ab_bz (b : Bool) : Int32 := if b then 1 else 0
theorem ab_bz0 (b : Bool) : ab_bz b = 0 ↔ b = false := by cases b <;> decide
theorem ab_bz1 (b : Bool) : ¬ ab_bz b = 0 ↔ b = true := by cases b <;> decide
theorem ab_bzn (b : Bool) : narrow .boolean (.int (ab_bz b)) = .int (ab_bz b) := by cases b <;> rfl
/-- a jump by KIND k over q -/
def sp_ja (T : Nat → Nat → Nat) (c m i k q : Nat) : Bool := c.testBit (3 + k) && (i.testBit q && (!decide (T k q &&& m = 0) && !decide (T k q &&& ab_no (m ||| i) = 0)))
def sp_lj (T : Nat → Nat → Nat) (c m i : Nat) : Bool := sp_any (fun k => sp_any (fun q => sp_ja T c m i k q) 12) 3
/-- a step by KIND k from p -/
def sp_sa (T : Nat → Nat → Nat) (c m i k p : Nat) : Bool := c.testBit k && (m.testBit p && !decide (T k p &&& ab_no (m ||| i) = 0))
def sp_ls (T : Nat → Nat → Nat) (c m i : Nat) : Bool := sp_any (fun k => sp_any (fun p => sp_sa T c m i k p) 12) 3
def sp_few (c m : Nat) : Bool := decide (sp_cn m < c / 1024 % 4)
def sp_lv (T : Nat → Nat → Nat) (c m i : Nat) : Nat := if sp_few c m then 0 else if c.testBit 8 && sp_lj T c m i then c &&& 184 else c &&& 255
def sp_la (T : Nat → Nat → Nat) (v m i : Nat) : Bool := (v.testBit 6 && !decide (ab_no (m ||| i) = 0)) || (sp_ls T v m i || sp_lj T v m i)
/-- the POINTS behind those of a mask, by a KIND -/
def sp_bh (T : Nat → Nat → Nat) (k o : Nat) : Nat := sp_or (fun q => if o.testBit q then T k q else 0) 12
def sp_st (T : Nat → Nat → Nat) (v p : Nat) : Nat := sp_or (fun k => if v.testBit k then T k p else 0) 3
def sp_jm (T : Nat → Nat → Nat) (v i p : Nat) : Nat := sp_or (fun k => if v.testBit (3 + k) then sp_bh T k (T k p &&& i) else 0) 3
def sp_tg (T : Nat → Nat → Nat) (v m i p : Nat) : Nat := if p = 15 then (if v.testBit 6 then ab_no (m ||| i) else 0) else if p < 12 ∧ m.testBit p = true then (sp_st T v p ||| sp_jm T v i p) &&& ab_no (m ||| i) else 0
theorem ab_out3 {x : Int32} (h0 : ¬ x = 0) (h1 : ¬ x = 1) (h2 : ¬ x = 2) : x.toInt < 0 ∨ 2 < x.toInt := by
  have e0 : ¬ x.toInt = 0 := lv_neT h0 rfl
  have e1 : ¬ x.toInt = 1 := lv_neT h1 rfl
  have e2 : ¬ x.toInt = 2 := lv_neT h2 rfl
  omega
theorem ab_le_of {n q : Nat} (hn : n < 2 ^ 31) (hq : q < 2 ^ 31) {c : Int32} (hc : nI n = c) (h : c ≤ nI q) : n ≤ q := by subst hc; exact (ab_le hn hq).mp h
theorem ab_nle_of {n q : Nat} (hn : n < 2 ^ 31) (hq : q < 2 ^ 31) {c : Int32} (hc : nI n = c) (h : ¬ c ≤ nI q) : q < n := by subst hc; exact Nat.lt_of_not_le (fun z => h ((ab_le hn hq).mpr z))
theorem sp_cn_le (x : Nat) : sp_cn x ≤ 12 := by
  unfold sp_cn
  have key : ∀ (l : List Nat) (n : Nat), l.foldl (fun n i => n + (x.testBit i).toNat) n ≤ n + l.length := by
    intro l
    induction l with
    | nil => intro n; exact Nat.le_refl _
    | cons a l ih =>
      intro n
      have h1 := ih (n + (x.testBit a).toNat)
      have h2 : (x.testBit a).toNat ≤ 1 := by cases x.testBit a <;> decide
      simp only [List.foldl_cons, List.length_cons]
      omega
  exact key (List.range 12) 0
theorem ab_hv {nr : Nat} {h : Nat → Nat → Int32} {g : Nat → Nat → Int64} {rr : Nat → Option Nat} {x j : Nat} {i : Int32} (e : i.toNatClampNeg = j) : (ab_S nr h g rr).2.1 x i.toNatClampNeg = h x j := by rw [e]; rfl
theorem ab_gv {nr : Nat} {h : Nat → Nat → Int32} {g : Nat → Nat → Int64} {rr : Nat → Option Nat} {x j : Nat} {i : Int32} (e : i.toNatClampNeg = j) : (ab_S nr h g rr).2.2.1 x i.toNatClampNeg = g x j := by rw [e]; rfl
