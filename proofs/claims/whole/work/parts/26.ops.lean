/-! what each call answers (v_), which code it throws (k_), what it leaves (s_) -/
section OP
def k_item (σ : zz_S) (x : Int) : Int := if x < 1 ∨ 100 < x then 1 else if 60 ≤ σ 4 0 then 2 else 0
def s_item (σ : zz_S) (x : Int) : zz_S := up_s (up_a σ 12 (σ 4 0 + 1) x) 4 (σ 4 0 + 1)
def k_ind (σ : zz_S) (i a c : Int) : Int := if i < 1 ∨ σ 4 0 < i ∨ a < 0 ∨ 1 < a ∨ c < 0 ∨ σ 28 0 < c then 1 else if σ 6 0 ≠ 0 ∨ σ 13 i ≠ 0 ∨ σ 3 0 < σ 12 i ∨ σ 10 (sp_tr σ a) ≠ 0 then 2 else 0
def s_ind (σ : zz_S) (i a c : Int) : zz_S := sp_pu (up_a σ 14 i c) i (sp_tr σ a)
def k_len (_σ : zz_S) (x : Int) : Int := if x < 1 ∨ 100 < x then 1 else 0
def s_len (σ : zz_S) (x : Int) : zz_S := up_s σ 3 x
def v_len (σ : zz_S) (x : Int) : Int := sm_ (f_lg σ x) (σ 0 0).toNat
def k_ret (σ : zz_S) (i n c : Int) : Int := if i < 1 ∨ σ 4 0 < i ∨ n < 0 ∨ 9 < n ∨ c < 0 ∨ σ 28 0 < c then 1 else if σ 13 i ≠ 1 ∨ σ 14 i ≠ 0 then 2 else 0
def s_ret (σ : zz_S) (i n c : Int) : zz_S := up_a (up_a σ 16 i n) 17 i c
/-- one step: steps and position go on, the chutes in order, the reader -/
def sp_s1 (σ : zz_S) : zz_S := up_s (up_s σ 2 (σ 2 0 + 1)) 8 (sp_in (up_s σ 2 (σ 2 0 + 1)) (σ 8 0 + 1))
def it_pc (σ : zz_S) : Nat → zz_S
  | 0 => σ
  | k + 1 => sp_pc (it_pc σ k) ((k : Int) + 1)
def sp_ms (σ : zz_S) : zz_S := sp_ra (it_pc (sp_s1 σ) (σ 28 0).toNat)
def it_ms (σ : zz_S) : Nat → zz_S
  | 0 => σ
  | k + 1 => sp_ms (it_ms σ k)
def k_stp (σ : zz_S) (n : Int) : Int := if n < 0 ∨ 100 < n then 1 else if σ 6 0 ≠ 0 then 2 else 0
def s_stp (σ : zz_S) (n : Int) : zz_S := it_ms σ n.toNat
def k_out (σ : zz_S) (i w : Int) : Int := if i < 0 ∨ σ 5 0 ≤ i ∨ w < 0 ∨ 3 < w then 1 else 0
def v_out (σ : zz_S) (i w : Int) : Int := if w = 0 then σ 23 i else if w = 1 then σ 24 i else if w = 2 then σ 25 i else σ 26 i
def k_chu (σ : zz_S) (c : Int) : Int := if c < 1 ∨ σ 28 0 < c then 1 else 0
def it_da (σ : zz_S) (a : Int) : Nat → zz_S
  | 0 => σ
  | k + 1 => sp_da (it_da σ a k) (sp_in σ (a + k))
def k_jam (σ : zz_S) (a b : Int) : Int := if a < 0 ∨ σ 0 0 ≤ a ∨ b < 0 ∨ σ 0 0 ≤ b then 1 else if σ 6 0 ≠ 0 then 2 else 0
def s_jam (σ : zz_S) (a b : Int) : zz_S := it_da (up_s σ 6 1) a (sp_in σ (b - a) + 1).toNat
def v_dou (σ : zz_S) (i : Int) : Int := if 0 ≤ i ∧ i < σ 7 0 then σ 27 i else -1
def k_fou (σ : zz_S) (i : Int) : Int := if i < 1 ∨ σ 4 0 < i then 1 else if σ 19 i = 0 then 2 else 0
def v_fou (σ : zz_S) (i f : Int) : Int := sm_ (f_nf (up_a σ 20 i f)) (σ 7 0).toNat
def it_ed (σ : zz_S) : Nat → zz_S
  | 0 => σ
  | k + 1 => sp_ed (it_ed σ k) (σ 27 k)
def k_rtk (σ : zz_S) : Int := if σ 6 0 = 0 then 1 else 0
def s_rtk (σ : zz_S) : zz_S := up_s (up_s (it_ed σ (σ 7 0).toNat) 7 0) 6 0
def k_man (σ : zz_S) (i c : Int) : Int := if i < 1 ∨ σ 4 0 < i ∨ c < 1 ∨ σ 28 0 < c then 1 else if σ 13 i ≠ 3 ∧ σ 13 i ≠ 5 then 2 else 0
def v_man (σ : zz_S) (c : Int) : Int := if σ 11 c = 0 then 1 else 0
def s_man (σ : zz_S) (i c : Int) : zz_S := if σ 11 c = 0 then up_a σ 13 i 2 else σ
def k_tra (σ : zz_S) (t : Int) : Int := if t < 0 ∨ σ 0 0 ≤ t then 1 else 0
def k_tol (σ : zz_S) (i w : Int) : Int := if i < 1 ∨ σ 4 0 < i ∨ w < 0 ∨ 6 < w then 1 else 0
def v_tol (σ : zz_S) (i w : Int) : Int := if w = 0 then σ 13 i else if w = 1 then σ 14 i else if w = 2 then σ 15 i else if w = 3 then σ 12 i else if w = 4 then σ 18 i else if w = 5 then sp_po σ i else σ 16 i
def v_cou (σ : zz_S) (w : Int) : Int := if w = 0 then σ 0 0 else if w = 1 then σ 4 0 else if w = 2 then sm_ (f_et σ) (σ 0 0).toNat else if w = 3 then σ 2 0 else if w = 4 then σ 28 0 else if w = 5 then sm_ (f_ou σ) (σ 4 0).toNat else if w = 6 then σ 6 0 else -1
/-- the exception of a code -/
def ex_s (k : Int) : String := if k = 1 then "java/lang/IllegalArgumentException" else "java/lang/IllegalStateException"
def ex_u (k : Int) : String := if k = 1 then "java/lang/IllegalArgumentException" else "java/lang/UnsupportedOperationException"
end OP
