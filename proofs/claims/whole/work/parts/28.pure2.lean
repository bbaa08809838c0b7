section PW
theorem pv_f {lo : Int} {σ τ : zz_S} {n14 n15 n16 n17 n20 : Int → Int} (hI : ir_ lo σ) (h3 : 1 ≤ τ 3 0 ∧ τ 3 0 ≤ 100) (h11 : ∀ c, τ 11 c = 0 ∨ τ 11 c = 1)
    (e14 : ∀ t, τ 14 t = n14 t) (e15 : ∀ t, τ 15 t = n15 t) (e16 : ∀ t, τ 16 t = n16 t) (e17 : ∀ t, τ 17 t = n17 t) (e20 : ∀ t, τ 20 t = n20 t)
    (hit : ∀ i, 1 ≤ i → i ≤ σ 4 0 → iv_it σ i → (0 ≤ n14 i ∧ n14 i ≤ σ 28 0) ∧ (0 ≤ n15 i ∧ n15 i ≤ 10) ∧ (0 ≤ n16 i ∧ n16 i ≤ 9) ∧ (0 ≤ n17 i ∧ n17 i ≤ σ 28 0) ∧ (n20 i = 0 ∨ n20 i = 1) ∧ (σ 13 i ≤ 1 → n15 i ≤ σ 1 0))
    (hlf : ∀ j, 0 ≤ j → j < σ 5 0 → n15 (σ 23 j) = σ 15 (σ 23 j)) (hnw : ∀ i, σ 4 0 < i → n14 i = 0 ∧ n15 i = 0 ∧ n16 i = 0 ∧ n17 i = 0 ∧ n20 i = 0)
    (f0 : ∀ t, τ 0 t = σ 0 t) (f1 : ∀ t, τ 1 t = σ 1 t) (f2 : ∀ t, τ 2 t = σ 2 t) (f4 : ∀ t, τ 4 t = σ 4 t) (f5 : ∀ t, τ 5 t = σ 5 t) (f7 : ∀ t, τ 7 t = σ 7 t) (f8 : ∀ t, τ 8 t = σ 8 t) (f28 : ∀ t, τ 28 t = σ 28 t) (f6 : ∀ t, τ 6 t = σ 6 t) (f10 : ∀ t, τ 10 t = σ 10 t) (f12 : ∀ t, τ 12 t = σ 12 t) (f13 : ∀ t, τ 13 t = σ 13 t) (f18 : ∀ t, τ 18 t = σ 18 t) (f19 : ∀ t, τ 19 t = σ 19 t) (f21 : ∀ t, τ 21 t = σ 21 t) (f22 : ∀ t, τ 22 t = σ 22 t) (f23 : ∀ t, τ 23 t = σ 23 t) (f24 : ∀ t, τ 24 t = σ 24 t) (f25 : ∀ t, τ 25 t = σ 25 t) (f26 : ∀ t, τ 26 t = σ 26 t) (f27 : ∀ t, τ 27 t = σ 27 t) : ir_ lo τ := by
  obtain ⟨⟨j1, j2, j3, j4, j5, j6, j7, j8, j9, j10⟩, j11, j12, j13, j14, j15, j16, j17, j18, j19, j20, j21, j22, j23, j24⟩ := hI
  have g0 := f0 0
  have g1 := f1 0
  have g2 := f2 0
  have g4 := f4 0
  have g5 := f5 0
  have g7 := f7 0
  have g8 := f8 0
  have g28 := f28 0
  have g6 := f6 0
  refine ⟨⟨by omega, by omega, by omega, by omega, by omega, by omega, by omega, by omega, by omega, by omega⟩, ?_, h11, ?_, ?_, ?_, ?_, ?_, ?_, ?_, ?_, ?_, ?_, ?_, ?_⟩
  · intro t
    have a := j11 t
    have b := f10 t
    have c := f18 (σ 10 t)
    refine ⟨by omega, by omega, fun h => ?_⟩
    rw [b, c]
    exact a.2.2 (by omega)
  · intro x h1 h2
    have a := j13 x h1 (by omega)
    have b := hit x h1 (by omega) a
    have b12 := f12 x
    have b13 := f13 x
    have b14 := e14 x
    have b15 := e15 x
    have b16 := e16 x
    have b17 := e17 x
    have b18 := f18 x
    have b19 := f19 x
    have b20 := e20 x
    have b21 := f21 x
    have b22 := f22 x
    refine ⟨by omega, by omega, by omega, by omega, by omega, by omega, by omega, by omega, by omega, by omega, by omega, fun h => ?_, by omega, fun h => ?_⟩
    · rw [b18, f10]
      exact a.2.2.2.2.2.2.2.2.2.2.2.1 (by omega)
    · have := b.2.2.2.2.2 (by omega)
      omega
  · intro j h1 h2
    have a := j14 j h1 (by omega)
    have d := hlf j h1 (by omega)
    rw [f23]
    have c13 := f13 (σ 23 j)
    have c15 := e15 (σ 23 j)
    have c21 := f21 (σ 23 j)
    have c22 := f22 (σ 23 j)
    have c24 := f24 j
    have c25 := f25 j
    have c26 := f26 j
    exact ⟨by omega, by omega, by omega, by omega, by omega, by omega⟩
  · intro j h1 h2
    have a := j15 j h1 (by omega)
    rw [f27]
    have c := f18 (σ 27 j)
    exact ⟨by omega, by omega, by omega⟩
  · intro x h
    have a := j16 x (by omega)
    have b := hnw x (by omega)
    have b13 := f13 x
    have b14 := e14 x
    have b15 := e15 x
    have b16 := e16 x
    have b17 := e17 x
    have b18 := f18 x
    have b19 := f19 x
    have b20 := e20 x
    have b21 := f21 x
    have b22 := f22 x
    exact ⟨by omega, by omega, by omega, by omega, by omega, by omega, by omega, by omega, by omega, by omega⟩
  · rw [g8, g2, g0]; exact j17
  · intro j k h1 h2 h3 h4 h5
    have bj := f23 j
    have bk := f23 k
    exact j18 j k h1 (by omega) h3 (by omega) (by omega)
  · intro j k h1 h2 h3 h4 h5
    have bj := f27 j
    have bk := f27 k
    exact j19 j k h1 (by omega) h3 (by omega) (by omega)
  · intro x h1 h2
    have b19 := f19 x
    have a := j20 x h1 (by omega)
    rw [b19, a]
    constructor
    · rintro ⟨k, k1, k2, k3⟩
      exact ⟨k, k1, by omega, by rw [f27]; exact k3⟩
    · rintro ⟨k, k1, k2, k3⟩
      rw [f27] at k3
      exact ⟨k, k1, by omega, k3⟩
  · intro h
    have := j21 (by omega)
    omega
  · intro j
    have b := f23 j
    have a := j22 j
    omega
  · intro j
    have b := f27 j
    have a := j23 j
    omega
  · intro t h
    have b := f10 t
    have a := j24 t h
    omega
theorem pv_14 {lo : Int} {σ : zz_S} (hI : ir_ lo σ) {i v : Int} (hi : 1 ≤ i ∧ i ≤ σ 4 0) (hv : 0 ≤ v ∧ v ≤ σ 28 0) : ir_ lo (up_a σ 14 i v) := by
  refine pv_f (σ := σ) (n14 := up_i (σ 14) i v) (n15 := σ 15) (n16 := σ 16) (n17 := σ 17) (n20 := σ 20) hI hI.1.2.2.2.1 hI.2.2.1 (fun _ => rfl) (fun _ => rfl) (fun _ => rfl) (fun _ => rfl) (fun _ => rfl) (fun x h1 h2 a => ?_) (fun _ _ _ => rfl) (fun x h => ?_) (fun _ => rfl) (fun _ => rfl) (fun _ => rfl) (fun _ => rfl) (fun _ => rfl) (fun _ => rfl) (fun _ => rfl) (fun _ => rfl) (fun _ => rfl) (fun _ => rfl) (fun _ => rfl) (fun _ => rfl) (fun _ => rfl) (fun _ => rfl) (fun _ => rfl) (fun _ => rfl) (fun _ => rfl) (fun _ => rfl) (fun _ => rfl) (fun _ => rfl) (fun _ => rfl)
  · have e : up_i (σ 14) i v x = if x = i then v else σ 14 x := rfl; by_cases q : x = i
    · subst q; rw [if_pos rfl] at e; exact ⟨by omega, by omega, by omega, by omega, by omega, by omega⟩
    · rw [if_neg q] at e; exact ⟨by omega, by omega, by omega, by omega, by omega, by omega⟩
  · have q := hI.2.2.2.2.2.2.1 x h; have e : up_i (σ 14) i v x = if x = i then v else σ 14 x := rfl; rw [if_neg (show x ≠ i by omega)] at e; exact ⟨by omega, by omega, by omega, by omega, by omega⟩
theorem pv_16 {lo : Int} {σ : zz_S} (hI : ir_ lo σ) {i v : Int} (hi : 1 ≤ i ∧ i ≤ σ 4 0) (hv : 0 ≤ v ∧ v ≤ 9) : ir_ lo (up_a σ 16 i v) := by
  refine pv_f (σ := σ) (n14 := σ 14) (n15 := σ 15) (n16 := up_i (σ 16) i v) (n17 := σ 17) (n20 := σ 20) hI hI.1.2.2.2.1 hI.2.2.1 (fun _ => rfl) (fun _ => rfl) (fun _ => rfl) (fun _ => rfl) (fun _ => rfl) (fun x h1 h2 a => ?_) (fun _ _ _ => rfl) (fun x h => ?_) (fun _ => rfl) (fun _ => rfl) (fun _ => rfl) (fun _ => rfl) (fun _ => rfl) (fun _ => rfl) (fun _ => rfl) (fun _ => rfl) (fun _ => rfl) (fun _ => rfl) (fun _ => rfl) (fun _ => rfl) (fun _ => rfl) (fun _ => rfl) (fun _ => rfl) (fun _ => rfl) (fun _ => rfl) (fun _ => rfl) (fun _ => rfl) (fun _ => rfl) (fun _ => rfl)
  · have e : up_i (σ 16) i v x = if x = i then v else σ 16 x := rfl; by_cases q : x = i
    · subst q; rw [if_pos rfl] at e; exact ⟨by omega, by omega, by omega, by omega, by omega, by omega⟩
    · rw [if_neg q] at e; exact ⟨by omega, by omega, by omega, by omega, by omega, by omega⟩
  · have q := hI.2.2.2.2.2.2.1 x h; have e : up_i (σ 16) i v x = if x = i then v else σ 16 x := rfl; rw [if_neg (show x ≠ i by omega)] at e; exact ⟨by omega, by omega, by omega, by omega, by omega⟩
theorem pv_17 {lo : Int} {σ : zz_S} (hI : ir_ lo σ) {i v : Int} (hi : 1 ≤ i ∧ i ≤ σ 4 0) (hv : 0 ≤ v ∧ v ≤ σ 28 0) : ir_ lo (up_a σ 17 i v) := by
  refine pv_f (σ := σ) (n14 := σ 14) (n15 := σ 15) (n16 := σ 16) (n17 := up_i (σ 17) i v) (n20 := σ 20) hI hI.1.2.2.2.1 hI.2.2.1 (fun _ => rfl) (fun _ => rfl) (fun _ => rfl) (fun _ => rfl) (fun _ => rfl) (fun x h1 h2 a => ?_) (fun _ _ _ => rfl) (fun x h => ?_) (fun _ => rfl) (fun _ => rfl) (fun _ => rfl) (fun _ => rfl) (fun _ => rfl) (fun _ => rfl) (fun _ => rfl) (fun _ => rfl) (fun _ => rfl) (fun _ => rfl) (fun _ => rfl) (fun _ => rfl) (fun _ => rfl) (fun _ => rfl) (fun _ => rfl) (fun _ => rfl) (fun _ => rfl) (fun _ => rfl) (fun _ => rfl) (fun _ => rfl) (fun _ => rfl)
  · have e : up_i (σ 17) i v x = if x = i then v else σ 17 x := rfl; by_cases q : x = i
    · subst q; rw [if_pos rfl] at e; exact ⟨by omega, by omega, by omega, by omega, by omega, by omega⟩
    · rw [if_neg q] at e; exact ⟨by omega, by omega, by omega, by omega, by omega, by omega⟩
  · have q := hI.2.2.2.2.2.2.1 x h; have e : up_i (σ 17) i v x = if x = i then v else σ 17 x := rfl; rw [if_neg (show x ≠ i by omega)] at e; exact ⟨by omega, by omega, by omega, by omega, by omega⟩
theorem pv_20 {lo : Int} {σ : zz_S} (hI : ir_ lo σ) {i v : Int} (hi : 1 ≤ i ∧ i ≤ σ 4 0) (hv : v = 0 ∨ v = 1) : ir_ lo (up_a σ 20 i v) := by
  refine pv_f (σ := σ) (n14 := σ 14) (n15 := σ 15) (n16 := σ 16) (n17 := σ 17) (n20 := up_i (σ 20) i v) hI hI.1.2.2.2.1 hI.2.2.1 (fun _ => rfl) (fun _ => rfl) (fun _ => rfl) (fun _ => rfl) (fun _ => rfl) (fun x h1 h2 a => ?_) (fun _ _ _ => rfl) (fun x h => ?_) (fun _ => rfl) (fun _ => rfl) (fun _ => rfl) (fun _ => rfl) (fun _ => rfl) (fun _ => rfl) (fun _ => rfl) (fun _ => rfl) (fun _ => rfl) (fun _ => rfl) (fun _ => rfl) (fun _ => rfl) (fun _ => rfl) (fun _ => rfl) (fun _ => rfl) (fun _ => rfl) (fun _ => rfl) (fun _ => rfl) (fun _ => rfl) (fun _ => rfl) (fun _ => rfl)
  · have e : up_i (σ 20) i v x = if x = i then v else σ 20 x := rfl; by_cases q : x = i
    · subst q; rw [if_pos rfl] at e; exact ⟨by omega, by omega, by omega, by omega, by omega, by omega⟩
    · rw [if_neg q] at e; exact ⟨by omega, by omega, by omega, by omega, by omega, by omega⟩
  · have q := hI.2.2.2.2.2.2.1 x h; have e : up_i (σ 20) i v x = if x = i then v else σ 20 x := rfl; rw [if_neg (show x ≠ i by omega)] at e; exact ⟨by omega, by omega, by omega, by omega, by omega⟩
theorem pv_15 {lo : Int} {σ : zz_S} (hI : ir_ lo σ) {i v : Int} (hi : 1 ≤ i ∧ i ≤ σ 4 0) (ht : σ 18 i ≠ -1) (hv : 0 ≤ v ∧ v ≤ σ 1 0) : ir_ lo (up_a σ 15 i v) := by
  have hm := hI.1.2.1
  refine pv_f (σ := σ) (n14 := σ 14) (n15 := up_i (σ 15) i v) (n16 := σ 16) (n17 := σ 17) (n20 := σ 20) hI hI.1.2.2.2.1 hI.2.2.1 (fun _ => rfl) (fun _ => rfl) (fun _ => rfl) (fun _ => rfl) (fun _ => rfl) (fun x h1 h2 a => ?_) (fun j h1 h2 => by
    have c := (hI.2.2.2.2.1 j h1 h2).2.2.1
    have d := (hI.2.2.2.1 i hi.1 hi.2).2.2.2.2.2.2.2.2.2.2.2.2.1
    exact up_i_n (fun q => by rw [q] at c; omega)) (fun x h => ?_) (fun _ => rfl) (fun _ => rfl) (fun _ => rfl) (fun _ => rfl) (fun _ => rfl) (fun _ => rfl) (fun _ => rfl) (fun _ => rfl) (fun _ => rfl) (fun _ => rfl) (fun _ => rfl) (fun _ => rfl) (fun _ => rfl) (fun _ => rfl) (fun _ => rfl) (fun _ => rfl) (fun _ => rfl) (fun _ => rfl) (fun _ => rfl) (fun _ => rfl) (fun _ => rfl)
  · have e : up_i (σ 15) i v x = if x = i then v else σ 15 x := rfl; by_cases q : x = i
    · subst q; rw [if_pos rfl] at e; exact ⟨by omega, by omega, by omega, by omega, by omega, by omega⟩
    · rw [if_neg q] at e; exact ⟨by omega, by omega, by omega, by omega, by omega, by omega⟩
  · have q := hI.2.2.2.2.2.2.1 x h; have e : up_i (σ 15) i v x = if x = i then v else σ 15 x := rfl; rw [if_neg (show x ≠ i by omega)] at e; exact ⟨by omega, by omega, by omega, by omega, by omega⟩
theorem pv_11 {lo : Int} {σ : zz_S} (hI : ir_ lo σ) {i v : Int} (hv : v = 0 ∨ v = 1) : ir_ lo (up_a σ 11 i v) := by
  refine pv_f (σ := σ) (n14 := σ 14) (n15 := σ 15) (n16 := σ 16) (n17 := σ 17) (n20 := σ 20) hI hI.1.2.2.2.1 (fun x => by
    show up_i (σ 11) i v x = 0 ∨ up_i (σ 11) i v x = 1
    have e : up_i (σ 11) i v x = if x = i then v else σ 11 x := rfl
    have a := hI.2.2.1 x
    by_cases q : x = i
    · rw [if_pos q] at e; omega
    · rw [if_neg q] at e; omega) (fun _ => rfl) (fun _ => rfl) (fun _ => rfl) (fun _ => rfl) (fun _ => rfl) (fun x h1 h2 a => ?_) (fun _ _ _ => rfl) (fun x h => ?_) (fun _ => rfl) (fun _ => rfl) (fun _ => rfl) (fun _ => rfl) (fun _ => rfl) (fun _ => rfl) (fun _ => rfl) (fun _ => rfl) (fun _ => rfl) (fun _ => rfl) (fun _ => rfl) (fun _ => rfl) (fun _ => rfl) (fun _ => rfl) (fun _ => rfl) (fun _ => rfl) (fun _ => rfl) (fun _ => rfl) (fun _ => rfl) (fun _ => rfl) (fun _ => rfl)
  · exact ⟨a.2.2.1, a.2.2.2.1, a.2.2.2.2.1, a.2.2.2.2.2.1, a.2.2.2.2.2.2.2.2.1, a.2.2.2.2.2.2.2.2.2.2.2.2.2⟩
  · have q := hI.2.2.2.2.2.2.1 x h; exact ⟨q.2.1, q.2.2.1, q.2.2.2.1, q.2.2.2.2.1, q.2.2.2.2.2.2.2.1⟩
theorem pv_3 {lo : Int} {σ : zz_S} (hI : ir_ lo σ) {v : Int} (hv : 1 ≤ v ∧ v ≤ 100) : ir_ lo (up_s σ 3 v) := by
  refine pv_f (σ := σ) (n14 := σ 14) (n15 := σ 15) (n16 := σ 16) (n17 := σ 17) (n20 := σ 20) hI hv hI.2.2.1 (fun _ => rfl) (fun _ => rfl) (fun _ => rfl) (fun _ => rfl) (fun _ => rfl) (fun x h1 h2 a => ?_) (fun _ _ _ => rfl) (fun x h => ?_) (fun _ => rfl) (fun _ => rfl) (fun _ => rfl) (fun _ => rfl) (fun _ => rfl) (fun _ => rfl) (fun _ => rfl) (fun _ => rfl) (fun _ => rfl) (fun _ => rfl) (fun _ => rfl) (fun _ => rfl) (fun _ => rfl) (fun _ => rfl) (fun _ => rfl) (fun _ => rfl) (fun _ => rfl) (fun _ => rfl) (fun _ => rfl) (fun _ => rfl) (fun _ => rfl)
  · exact ⟨a.2.2.1, a.2.2.2.1, a.2.2.2.2.1, a.2.2.2.2.2.1, a.2.2.2.2.2.2.2.2.1, a.2.2.2.2.2.2.2.2.2.2.2.2.2⟩
  · have q := hI.2.2.2.2.2.2.1 x h; exact ⟨q.2.1, q.2.2.1, q.2.2.2.1, q.2.2.2.2.1, q.2.2.2.2.2.2.2.1⟩
end PW
