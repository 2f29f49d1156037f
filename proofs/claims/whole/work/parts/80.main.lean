/-! the law's loop -/
section LOOP
variable {xs : Nat → Int32} {L : Nat}
theorem ex_no {i : Nat} (hL : L ≤ 3584) (h : i + 7 ≤ L) : ¬ ((Int32.ofNat L) - (7 : Int32)) < nI i := by
  show ¬ (nI L - 7) < nI i
  rw [li7, pk_sub (by omega)]
  exact nlt_i (by omega) (by omega) (by omega)
theorem ex_yes {i : Nat} (hL : L ≤ 3584) (hi : i ≤ L) (h : ¬ i + 7 ≤ L) : ((Int32.ofNat L) - (7 : Int32)) < nI i := by
  show (nI L - 7) < nI i
  rw [li7, Int32.lt_iff_toInt_lt, pk_sub_toInt (by omega) (by omega), nI_toInt (by omega)]
  omega
theorem ib_k {i j : Nat} (hL : L ≤ 3584) (h : i + 7 ≤ L) (hj : j < 7) : inb (nI i + nI j) L = true := by
  rw [nI_add]
  exact inb_t (by omega) (by omega)
theorem nx7 (k : Nat) : nI (7 * k) + 7 = nI (7 * (k + 1)) := by
  rw [li7, nI_add]
  rfl
theorem k943 {n k : Nat} (ih : ∀ υ, Inv υ (k + 1) → F_L_law_18 xs L n (nI (7 * (k + 1))) υ = some ()) : ∀ υ, Inv υ (k + 1) → F_L_law_943 xs L (F_L_law_18 xs L n) (nI (7 * k)) υ = some () := by
  intro υ hυ
  unfold F_L_law_943
  rw [nx7]
  exact ih υ hυ
set_option maxHeartbeats 1000000 in
theorem op_0 {n k : Nat} {h : Hp} (hL : L ≤ 3584) (hlt : 7 * k + 7 ≤ L) (hI : Inv h k) (ih : ∀ υ, Inv υ (k + 1) → F_L_law_18 xs L n (nI (7 * (k + 1))) υ = some ()) (hop : (xs (7 * k) &&& (31 : Int32)) = 0) : F_L_law_18 xs L (n + 1) (nI (7 * k)) h = some () := by
  have h1 : inb (nI (7 * k) + (1 : Int32)) L = true := ib_k (j := 1) hL hlt (by omega)
  have h2 : inb (nI (7 * k) + (2 : Int32)) L = true := ib_k (j := 2) hL hlt (by omega)
  have h3 : inb (nI (7 * k) + (3 : Int32)) L = true := ib_k (j := 3) hL hlt (by omega)
  have h4 : inb (nI (7 * k) + (4 : Int32)) L = true := ib_k (j := 4) hL hlt (by omega)
  have h5 : inb (nI (7 * k) + (5 : Int32)) L = true := ib_k (j := 5) hL hlt (by omega)
  have h6 : inb (nI (7 * k) + (6 : Int32)) L = true := ib_k (j := 6) hL hlt (by omega)
  rw [F_L_law_18, if_neg (ex_no hL hlt), inb_t (by omega) (by omega), if_pos rfl, cl_nI (by omega), hop, if_pos rfl]
  simp only [h1, h2, h3, h4, h5, h6, if_true]
  exact go_lake (F_L_law_943 xs L (F_L_law_18 xs L n) (nI (7 * k))) hI (by omega) (k943 ih) _ _
set_option maxHeartbeats 1000000 in
theorem op_1 {n k : Nat} {h : Hp} (hL : L ≤ 3584) (hlt : 7 * k + 7 ≤ L) (hI : Inv h k) (ih : ∀ υ, Inv υ (k + 1) → F_L_law_18 xs L n (nI (7 * (k + 1))) υ = some ()) (hop : (xs (7 * k) &&& (31 : Int32)) = 1) : F_L_law_18 xs L (n + 1) (nI (7 * k)) h = some () := by
  have h1 : inb (nI (7 * k) + (1 : Int32)) L = true := ib_k (j := 1) hL hlt (by omega)
  have h2 : inb (nI (7 * k) + (2 : Int32)) L = true := ib_k (j := 2) hL hlt (by omega)
  have h3 : inb (nI (7 * k) + (3 : Int32)) L = true := ib_k (j := 3) hL hlt (by omega)
  have h4 : inb (nI (7 * k) + (4 : Int32)) L = true := ib_k (j := 4) hL hlt (by omega)
  have h5 : inb (nI (7 * k) + (5 : Int32)) L = true := ib_k (j := 5) hL hlt (by omega)
  have h6 : inb (nI (7 * k) + (6 : Int32)) L = true := ib_k (j := 6) hL hlt (by omega)
  rw [F_L_law_18, if_neg (ex_no hL hlt), inb_t (by omega) (by omega), if_pos rfl, cl_nI (by omega), hop, if_neg (show ¬ (1 : Int32) = 0 by decide), if_pos rfl]
  simp only [h1, h2, h3, h4, h5, h6, if_true]
  exact go_ice (F_L_law_943 xs L (F_L_law_18 xs L n) (nI (7 * k))) hI (by omega) (k943 ih) _ _
set_option maxHeartbeats 1000000 in
theorem op_2 {n k : Nat} {h : Hp} (hL : L ≤ 3584) (hlt : 7 * k + 7 ≤ L) (hI : Inv h k) (ih : ∀ υ, Inv υ (k + 1) → F_L_law_18 xs L n (nI (7 * (k + 1))) υ = some ()) (hop : (xs (7 * k) &&& (31 : Int32)) = 2) : F_L_law_18 xs L (n + 1) (nI (7 * k)) h = some () := by
  have h1 : inb (nI (7 * k) + (1 : Int32)) L = true := ib_k (j := 1) hL hlt (by omega)
  have h2 : inb (nI (7 * k) + (2 : Int32)) L = true := ib_k (j := 2) hL hlt (by omega)
  have h3 : inb (nI (7 * k) + (3 : Int32)) L = true := ib_k (j := 3) hL hlt (by omega)
  have h4 : inb (nI (7 * k) + (4 : Int32)) L = true := ib_k (j := 4) hL hlt (by omega)
  have h5 : inb (nI (7 * k) + (5 : Int32)) L = true := ib_k (j := 5) hL hlt (by omega)
  have h6 : inb (nI (7 * k) + (6 : Int32)) L = true := ib_k (j := 6) hL hlt (by omega)
  rw [F_L_law_18, if_neg (ex_no hL hlt), inb_t (by omega) (by omega), if_pos rfl, cl_nI (by omega), hop, if_neg (show ¬ (2 : Int32) = 0 by decide), if_neg (show ¬ (2 : Int32) = 1 by decide), if_pos rfl]
  simp only [h1, h2, h3, h4, h5, h6, if_true]
  exact go_square (F_L_law_943 xs L (F_L_law_18 xs L n) (nI (7 * k))) hI (k943 ih) _ _
set_option maxHeartbeats 1000000 in
theorem op_3 {n k : Nat} {h : Hp} (hL : L ≤ 3584) (hlt : 7 * k + 7 ≤ L) (hI : Inv h k) (ih : ∀ υ, Inv υ (k + 1) → F_L_law_18 xs L n (nI (7 * (k + 1))) υ = some ()) (hop : (xs (7 * k) &&& (31 : Int32)) = 3) : F_L_law_18 xs L (n + 1) (nI (7 * k)) h = some () := by
  have h1 : inb (nI (7 * k) + (1 : Int32)) L = true := ib_k (j := 1) hL hlt (by omega)
  have h2 : inb (nI (7 * k) + (2 : Int32)) L = true := ib_k (j := 2) hL hlt (by omega)
  have h3 : inb (nI (7 * k) + (3 : Int32)) L = true := ib_k (j := 3) hL hlt (by omega)
  have h4 : inb (nI (7 * k) + (4 : Int32)) L = true := ib_k (j := 4) hL hlt (by omega)
  have h5 : inb (nI (7 * k) + (5 : Int32)) L = true := ib_k (j := 5) hL hlt (by omega)
  have h6 : inb (nI (7 * k) + (6 : Int32)) L = true := ib_k (j := 6) hL hlt (by omega)
  rw [F_L_law_18, if_neg (ex_no hL hlt), inb_t (by omega) (by omega), if_pos rfl, cl_nI (by omega), hop, if_neg (show ¬ (3 : Int32) = 0 by decide), if_neg (show ¬ (3 : Int32) = 1 by decide), if_neg (show ¬ (3 : Int32) = 2 by decide), if_pos rfl]
  simp only [h1, h2, h3, h4, h5, h6, if_true]
  exact go_fish (F_L_law_943 xs L (F_L_law_18 xs L n) (nI (7 * k))) hI (by omega) (k943 ih) _
set_option maxHeartbeats 1000000 in
theorem op_4 {n k : Nat} {h : Hp} (hL : L ≤ 3584) (hlt : 7 * k + 7 ≤ L) (hI : Inv h k) (ih : ∀ υ, Inv υ (k + 1) → F_L_law_18 xs L n (nI (7 * (k + 1))) υ = some ()) (hop : (xs (7 * k) &&& (31 : Int32)) = 4) : F_L_law_18 xs L (n + 1) (nI (7 * k)) h = some () := by
  have h1 : inb (nI (7 * k) + (1 : Int32)) L = true := ib_k (j := 1) hL hlt (by omega)
  have h2 : inb (nI (7 * k) + (2 : Int32)) L = true := ib_k (j := 2) hL hlt (by omega)
  have h3 : inb (nI (7 * k) + (3 : Int32)) L = true := ib_k (j := 3) hL hlt (by omega)
  have h4 : inb (nI (7 * k) + (4 : Int32)) L = true := ib_k (j := 4) hL hlt (by omega)
  have h5 : inb (nI (7 * k) + (5 : Int32)) L = true := ib_k (j := 5) hL hlt (by omega)
  have h6 : inb (nI (7 * k) + (6 : Int32)) L = true := ib_k (j := 6) hL hlt (by omega)
  rw [F_L_law_18, if_neg (ex_no hL hlt), inb_t (by omega) (by omega), if_pos rfl, cl_nI (by omega), hop, if_neg (show ¬ (4 : Int32) = 0 by decide), if_neg (show ¬ (4 : Int32) = 1 by decide), if_neg (show ¬ (4 : Int32) = 2 by decide), if_neg (show ¬ (4 : Int32) = 3 by decide), if_pos rfl]
  simp only [h1, h2, h3, h4, h5, h6, if_true]
  exact go_write (F_L_law_943 xs L (F_L_law_18 xs L n) (nI (7 * k))) hI (by omega) (k943 ih) _ _ _ _ _ _
set_option maxHeartbeats 1000000 in
theorem op_5 {n k : Nat} {h : Hp} (hL : L ≤ 3584) (hlt : 7 * k + 7 ≤ L) (hI : Inv h k) (ih : ∀ υ, Inv υ (k + 1) → F_L_law_18 xs L n (nI (7 * (k + 1))) υ = some ()) (hop : (xs (7 * k) &&& (31 : Int32)) = 5) : F_L_law_18 xs L (n + 1) (nI (7 * k)) h = some () := by
  have h1 : inb (nI (7 * k) + (1 : Int32)) L = true := ib_k (j := 1) hL hlt (by omega)
  have h2 : inb (nI (7 * k) + (2 : Int32)) L = true := ib_k (j := 2) hL hlt (by omega)
  have h3 : inb (nI (7 * k) + (3 : Int32)) L = true := ib_k (j := 3) hL hlt (by omega)
  have h4 : inb (nI (7 * k) + (4 : Int32)) L = true := ib_k (j := 4) hL hlt (by omega)
  have h5 : inb (nI (7 * k) + (5 : Int32)) L = true := ib_k (j := 5) hL hlt (by omega)
  have h6 : inb (nI (7 * k) + (6 : Int32)) L = true := ib_k (j := 6) hL hlt (by omega)
  rw [F_L_law_18, if_neg (ex_no hL hlt), inb_t (by omega) (by omega), if_pos rfl, cl_nI (by omega), hop, if_neg (show ¬ (5 : Int32) = 0 by decide), if_neg (show ¬ (5 : Int32) = 1 by decide), if_neg (show ¬ (5 : Int32) = 2 by decide), if_neg (show ¬ (5 : Int32) = 3 by decide), if_neg (show ¬ (5 : Int32) = 4 by decide), if_pos rfl]
  simp only [h1, h2, h3, h4, h5, h6, if_true]
  exact go_about (F_L_law_943 xs L (F_L_law_18 xs L n) (nI (7 * k))) hI (k943 ih) _ _
set_option maxHeartbeats 1000000 in
theorem op_6 {n k : Nat} {h : Hp} (hL : L ≤ 3584) (hlt : 7 * k + 7 ≤ L) (hI : Inv h k) (ih : ∀ υ, Inv υ (k + 1) → F_L_law_18 xs L n (nI (7 * (k + 1))) υ = some ()) (hop : (xs (7 * k) &&& (31 : Int32)) = 6) : F_L_law_18 xs L (n + 1) (nI (7 * k)) h = some () := by
  have h1 : inb (nI (7 * k) + (1 : Int32)) L = true := ib_k (j := 1) hL hlt (by omega)
  have h2 : inb (nI (7 * k) + (2 : Int32)) L = true := ib_k (j := 2) hL hlt (by omega)
  have h3 : inb (nI (7 * k) + (3 : Int32)) L = true := ib_k (j := 3) hL hlt (by omega)
  have h4 : inb (nI (7 * k) + (4 : Int32)) L = true := ib_k (j := 4) hL hlt (by omega)
  have h5 : inb (nI (7 * k) + (5 : Int32)) L = true := ib_k (j := 5) hL hlt (by omega)
  have h6 : inb (nI (7 * k) + (6 : Int32)) L = true := ib_k (j := 6) hL hlt (by omega)
  rw [F_L_law_18, if_neg (ex_no hL hlt), inb_t (by omega) (by omega), if_pos rfl, cl_nI (by omega), hop, if_neg (show ¬ (6 : Int32) = 0 by decide), if_neg (show ¬ (6 : Int32) = 1 by decide), if_neg (show ¬ (6 : Int32) = 2 by decide), if_neg (show ¬ (6 : Int32) = 3 by decide), if_neg (show ¬ (6 : Int32) = 4 by decide), if_neg (show ¬ (6 : Int32) = 5 by decide), if_pos rfl]
  simp only [h1, h2, h3, h4, h5, h6, if_true]
  exact go_as (F_L_law_943 xs L (F_L_law_18 xs L n) (nI (7 * k))) hI (k943 ih) _ _
set_option maxHeartbeats 1000000 in
theorem op_7 {n k : Nat} {h : Hp} (hL : L ≤ 3584) (hlt : 7 * k + 7 ≤ L) (hI : Inv h k) (ih : ∀ υ, Inv υ (k + 1) → F_L_law_18 xs L n (nI (7 * (k + 1))) υ = some ()) (hop : (xs (7 * k) &&& (31 : Int32)) = 7) : F_L_law_18 xs L (n + 1) (nI (7 * k)) h = some () := by
  have h1 : inb (nI (7 * k) + (1 : Int32)) L = true := ib_k (j := 1) hL hlt (by omega)
  have h2 : inb (nI (7 * k) + (2 : Int32)) L = true := ib_k (j := 2) hL hlt (by omega)
  have h3 : inb (nI (7 * k) + (3 : Int32)) L = true := ib_k (j := 3) hL hlt (by omega)
  have h4 : inb (nI (7 * k) + (4 : Int32)) L = true := ib_k (j := 4) hL hlt (by omega)
  have h5 : inb (nI (7 * k) + (5 : Int32)) L = true := ib_k (j := 5) hL hlt (by omega)
  have h6 : inb (nI (7 * k) + (6 : Int32)) L = true := ib_k (j := 6) hL hlt (by omega)
  rw [F_L_law_18, if_neg (ex_no hL hlt), inb_t (by omega) (by omega), if_pos rfl, cl_nI (by omega), hop, if_neg (show ¬ (7 : Int32) = 0 by decide), if_neg (show ¬ (7 : Int32) = 1 by decide), if_neg (show ¬ (7 : Int32) = 2 by decide), if_neg (show ¬ (7 : Int32) = 3 by decide), if_neg (show ¬ (7 : Int32) = 4 by decide), if_neg (show ¬ (7 : Int32) = 5 by decide), if_neg (show ¬ (7 : Int32) = 6 by decide), if_pos rfl]
  simp only [h1, h2, h3, h4, h5, h6, if_true]
  exact go_saw (F_L_law_943 xs L (F_L_law_18 xs L n) (nI (7 * k))) hI (by omega) (k943 ih) _
set_option maxHeartbeats 1000000 in
theorem op_8 {n k : Nat} {h : Hp} (hL : L ≤ 3584) (hlt : 7 * k + 7 ≤ L) (hI : Inv h k) (ih : ∀ υ, Inv υ (k + 1) → F_L_law_18 xs L n (nI (7 * (k + 1))) υ = some ()) (hop : (xs (7 * k) &&& (31 : Int32)) = 8) : F_L_law_18 xs L (n + 1) (nI (7 * k)) h = some () := by
  have h1 : inb (nI (7 * k) + (1 : Int32)) L = true := ib_k (j := 1) hL hlt (by omega)
  have h2 : inb (nI (7 * k) + (2 : Int32)) L = true := ib_k (j := 2) hL hlt (by omega)
  have h3 : inb (nI (7 * k) + (3 : Int32)) L = true := ib_k (j := 3) hL hlt (by omega)
  have h4 : inb (nI (7 * k) + (4 : Int32)) L = true := ib_k (j := 4) hL hlt (by omega)
  have h5 : inb (nI (7 * k) + (5 : Int32)) L = true := ib_k (j := 5) hL hlt (by omega)
  have h6 : inb (nI (7 * k) + (6 : Int32)) L = true := ib_k (j := 6) hL hlt (by omega)
  rw [F_L_law_18, if_neg (ex_no hL hlt), inb_t (by omega) (by omega), if_pos rfl, cl_nI (by omega), hop, if_neg (show ¬ (8 : Int32) = 0 by decide), if_neg (show ¬ (8 : Int32) = 1 by decide), if_neg (show ¬ (8 : Int32) = 2 by decide), if_neg (show ¬ (8 : Int32) = 3 by decide), if_neg (show ¬ (8 : Int32) = 4 by decide), if_neg (show ¬ (8 : Int32) = 5 by decide), if_neg (show ¬ (8 : Int32) = 6 by decide), if_neg (show ¬ (8 : Int32) = 7 by decide), if_pos rfl]
  simp only [h1, h2, h3, h4, h5, h6, if_true]
  exact go_letters (F_L_law_943 xs L (F_L_law_18 xs L n) (nI (7 * k))) hI (by omega) (k943 ih) _
set_option maxHeartbeats 1000000 in
theorem op_9 {n k : Nat} {h : Hp} (hL : L ≤ 3584) (hlt : 7 * k + 7 ≤ L) (hI : Inv h k) (ih : ∀ υ, Inv υ (k + 1) → F_L_law_18 xs L n (nI (7 * (k + 1))) υ = some ()) (hop : (xs (7 * k) &&& (31 : Int32)) = 9) : F_L_law_18 xs L (n + 1) (nI (7 * k)) h = some () := by
  have h1 : inb (nI (7 * k) + (1 : Int32)) L = true := ib_k (j := 1) hL hlt (by omega)
  have h2 : inb (nI (7 * k) + (2 : Int32)) L = true := ib_k (j := 2) hL hlt (by omega)
  have h3 : inb (nI (7 * k) + (3 : Int32)) L = true := ib_k (j := 3) hL hlt (by omega)
  have h4 : inb (nI (7 * k) + (4 : Int32)) L = true := ib_k (j := 4) hL hlt (by omega)
  have h5 : inb (nI (7 * k) + (5 : Int32)) L = true := ib_k (j := 5) hL hlt (by omega)
  have h6 : inb (nI (7 * k) + (6 : Int32)) L = true := ib_k (j := 6) hL hlt (by omega)
  rw [F_L_law_18, if_neg (ex_no hL hlt), inb_t (by omega) (by omega), if_pos rfl, cl_nI (by omega), hop, if_neg (show ¬ (9 : Int32) = 0 by decide), if_neg (show ¬ (9 : Int32) = 1 by decide), if_neg (show ¬ (9 : Int32) = 2 by decide), if_neg (show ¬ (9 : Int32) = 3 by decide), if_neg (show ¬ (9 : Int32) = 4 by decide), if_neg (show ¬ (9 : Int32) = 5 by decide), if_neg (show ¬ (9 : Int32) = 6 by decide), if_neg (show ¬ (9 : Int32) = 7 by decide), if_neg (show ¬ (9 : Int32) = 8 by decide), if_pos rfl]
  exact go_blank (F_L_law_943 xs L (F_L_law_18 xs L n) (nI (7 * k))) hI (by omega) (k943 ih)
set_option maxHeartbeats 1000000 in
theorem op_10 {n k : Nat} {h : Hp} (hL : L ≤ 3584) (hlt : 7 * k + 7 ≤ L) (hI : Inv h k) (ih : ∀ υ, Inv υ (k + 1) → F_L_law_18 xs L n (nI (7 * (k + 1))) υ = some ()) (hop : (xs (7 * k) &&& (31 : Int32)) = 10) : F_L_law_18 xs L (n + 1) (nI (7 * k)) h = some () := by
  have h1 : inb (nI (7 * k) + (1 : Int32)) L = true := ib_k (j := 1) hL hlt (by omega)
  have h2 : inb (nI (7 * k) + (2 : Int32)) L = true := ib_k (j := 2) hL hlt (by omega)
  have h3 : inb (nI (7 * k) + (3 : Int32)) L = true := ib_k (j := 3) hL hlt (by omega)
  have h4 : inb (nI (7 * k) + (4 : Int32)) L = true := ib_k (j := 4) hL hlt (by omega)
  have h5 : inb (nI (7 * k) + (5 : Int32)) L = true := ib_k (j := 5) hL hlt (by omega)
  have h6 : inb (nI (7 * k) + (6 : Int32)) L = true := ib_k (j := 6) hL hlt (by omega)
  rw [F_L_law_18, if_neg (ex_no hL hlt), inb_t (by omega) (by omega), if_pos rfl, cl_nI (by omega), hop, if_neg (show ¬ (10 : Int32) = 0 by decide), if_neg (show ¬ (10 : Int32) = 1 by decide), if_neg (show ¬ (10 : Int32) = 2 by decide), if_neg (show ¬ (10 : Int32) = 3 by decide), if_neg (show ¬ (10 : Int32) = 4 by decide), if_neg (show ¬ (10 : Int32) = 5 by decide), if_neg (show ¬ (10 : Int32) = 6 by decide), if_neg (show ¬ (10 : Int32) = 7 by decide), if_neg (show ¬ (10 : Int32) = 8 by decide), if_neg (show ¬ (10 : Int32) = 9 by decide), if_pos rfl]
  exact go_fault (F_L_law_943 xs L (F_L_law_18 xs L n) (nI (7 * k))) hI (k943 ih)
set_option maxHeartbeats 1000000 in
theorem op_11 {n k : Nat} {h : Hp} (hL : L ≤ 3584) (hlt : 7 * k + 7 ≤ L) (hI : Inv h k) (ih : ∀ υ, Inv υ (k + 1) → F_L_law_18 xs L n (nI (7 * (k + 1))) υ = some ()) (hop : (xs (7 * k) &&& (31 : Int32)) = 11) : F_L_law_18 xs L (n + 1) (nI (7 * k)) h = some () := by
  have h1 : inb (nI (7 * k) + (1 : Int32)) L = true := ib_k (j := 1) hL hlt (by omega)
  have h2 : inb (nI (7 * k) + (2 : Int32)) L = true := ib_k (j := 2) hL hlt (by omega)
  have h3 : inb (nI (7 * k) + (3 : Int32)) L = true := ib_k (j := 3) hL hlt (by omega)
  have h4 : inb (nI (7 * k) + (4 : Int32)) L = true := ib_k (j := 4) hL hlt (by omega)
  have h5 : inb (nI (7 * k) + (5 : Int32)) L = true := ib_k (j := 5) hL hlt (by omega)
  have h6 : inb (nI (7 * k) + (6 : Int32)) L = true := ib_k (j := 6) hL hlt (by omega)
  rw [F_L_law_18, if_neg (ex_no hL hlt), inb_t (by omega) (by omega), if_pos rfl, cl_nI (by omega), hop, if_neg (show ¬ (11 : Int32) = 0 by decide), if_neg (show ¬ (11 : Int32) = 1 by decide), if_neg (show ¬ (11 : Int32) = 2 by decide), if_neg (show ¬ (11 : Int32) = 3 by decide), if_neg (show ¬ (11 : Int32) = 4 by decide), if_neg (show ¬ (11 : Int32) = 5 by decide), if_neg (show ¬ (11 : Int32) = 6 by decide), if_neg (show ¬ (11 : Int32) = 7 by decide), if_neg (show ¬ (11 : Int32) = 8 by decide), if_neg (show ¬ (11 : Int32) = 9 by decide), if_neg (show ¬ (11 : Int32) = 10 by decide), if_pos rfl]
  exact go_days (F_L_law_943 xs L (F_L_law_18 xs L n) (nI (7 * k))) hI (by omega) (k943 ih)
set_option maxHeartbeats 1000000 in
theorem op_12 {n k : Nat} {h : Hp} (hL : L ≤ 3584) (hlt : 7 * k + 7 ≤ L) (hI : Inv h k) (ih : ∀ υ, Inv υ (k + 1) → F_L_law_18 xs L n (nI (7 * (k + 1))) υ = some ()) (hop : (xs (7 * k) &&& (31 : Int32)) = 12) : F_L_law_18 xs L (n + 1) (nI (7 * k)) h = some () := by
  have h1 : inb (nI (7 * k) + (1 : Int32)) L = true := ib_k (j := 1) hL hlt (by omega)
  have h2 : inb (nI (7 * k) + (2 : Int32)) L = true := ib_k (j := 2) hL hlt (by omega)
  have h3 : inb (nI (7 * k) + (3 : Int32)) L = true := ib_k (j := 3) hL hlt (by omega)
  have h4 : inb (nI (7 * k) + (4 : Int32)) L = true := ib_k (j := 4) hL hlt (by omega)
  have h5 : inb (nI (7 * k) + (5 : Int32)) L = true := ib_k (j := 5) hL hlt (by omega)
  have h6 : inb (nI (7 * k) + (6 : Int32)) L = true := ib_k (j := 6) hL hlt (by omega)
  rw [F_L_law_18, if_neg (ex_no hL hlt), inb_t (by omega) (by omega), if_pos rfl, cl_nI (by omega), hop, if_neg (show ¬ (12 : Int32) = 0 by decide), if_neg (show ¬ (12 : Int32) = 1 by decide), if_neg (show ¬ (12 : Int32) = 2 by decide), if_neg (show ¬ (12 : Int32) = 3 by decide), if_neg (show ¬ (12 : Int32) = 4 by decide), if_neg (show ¬ (12 : Int32) = 5 by decide), if_neg (show ¬ (12 : Int32) = 6 by decide), if_neg (show ¬ (12 : Int32) = 7 by decide), if_neg (show ¬ (12 : Int32) = 8 by decide), if_neg (show ¬ (12 : Int32) = 9 by decide), if_neg (show ¬ (12 : Int32) = 10 by decide), if_neg (show ¬ (12 : Int32) = 11 by decide), if_pos rfl]
  simp only [h1, h2, h3, h4, h5, h6, if_true]
  exact go_needed (F_L_law_943 xs L (F_L_law_18 xs L n) (nI (7 * k))) hI (k943 ih) _ _
set_option maxHeartbeats 1000000 in
theorem op_13 {n k : Nat} {h : Hp} (hL : L ≤ 3584) (hlt : 7 * k + 7 ≤ L) (hI : Inv h k) (ih : ∀ υ, Inv υ (k + 1) → F_L_law_18 xs L n (nI (7 * (k + 1))) υ = some ()) (hop : (xs (7 * k) &&& (31 : Int32)) = 13) : F_L_law_18 xs L (n + 1) (nI (7 * k)) h = some () := by
  have h1 : inb (nI (7 * k) + (1 : Int32)) L = true := ib_k (j := 1) hL hlt (by omega)
  have h2 : inb (nI (7 * k) + (2 : Int32)) L = true := ib_k (j := 2) hL hlt (by omega)
  have h3 : inb (nI (7 * k) + (3 : Int32)) L = true := ib_k (j := 3) hL hlt (by omega)
  have h4 : inb (nI (7 * k) + (4 : Int32)) L = true := ib_k (j := 4) hL hlt (by omega)
  have h5 : inb (nI (7 * k) + (5 : Int32)) L = true := ib_k (j := 5) hL hlt (by omega)
  have h6 : inb (nI (7 * k) + (6 : Int32)) L = true := ib_k (j := 6) hL hlt (by omega)
  rw [F_L_law_18, if_neg (ex_no hL hlt), inb_t (by omega) (by omega), if_pos rfl, cl_nI (by omega), hop, if_neg (show ¬ (13 : Int32) = 0 by decide), if_neg (show ¬ (13 : Int32) = 1 by decide), if_neg (show ¬ (13 : Int32) = 2 by decide), if_neg (show ¬ (13 : Int32) = 3 by decide), if_neg (show ¬ (13 : Int32) = 4 by decide), if_neg (show ¬ (13 : Int32) = 5 by decide), if_neg (show ¬ (13 : Int32) = 6 by decide), if_neg (show ¬ (13 : Int32) = 7 by decide), if_neg (show ¬ (13 : Int32) = 8 by decide), if_neg (show ¬ (13 : Int32) = 9 by decide), if_neg (show ¬ (13 : Int32) = 10 by decide), if_neg (show ¬ (13 : Int32) = 11 by decide), if_neg (show ¬ (13 : Int32) = 12 by decide), if_pos rfl]
  simp only [h1, h2, h3, h4, h5, h6, if_true]
  exact go_bears (F_L_law_943 xs L (F_L_law_18 xs L n) (nI (7 * k))) hI (k943 ih) _
set_option maxHeartbeats 1000000 in
theorem op_14 {n k : Nat} {h : Hp} (hL : L ≤ 3584) (hlt : 7 * k + 7 ≤ L) (hI : Inv h k) (ih : ∀ υ, Inv υ (k + 1) → F_L_law_18 xs L n (nI (7 * (k + 1))) υ = some ()) (hop : (xs (7 * k) &&& (31 : Int32)) = 14) : F_L_law_18 xs L (n + 1) (nI (7 * k)) h = some () := by
  have h1 : inb (nI (7 * k) + (1 : Int32)) L = true := ib_k (j := 1) hL hlt (by omega)
  have h2 : inb (nI (7 * k) + (2 : Int32)) L = true := ib_k (j := 2) hL hlt (by omega)
  have h3 : inb (nI (7 * k) + (3 : Int32)) L = true := ib_k (j := 3) hL hlt (by omega)
  have h4 : inb (nI (7 * k) + (4 : Int32)) L = true := ib_k (j := 4) hL hlt (by omega)
  have h5 : inb (nI (7 * k) + (5 : Int32)) L = true := ib_k (j := 5) hL hlt (by omega)
  have h6 : inb (nI (7 * k) + (6 : Int32)) L = true := ib_k (j := 6) hL hlt (by omega)
  rw [F_L_law_18, if_neg (ex_no hL hlt), inb_t (by omega) (by omega), if_pos rfl, cl_nI (by omega), hop, if_neg (show ¬ (14 : Int32) = 0 by decide), if_neg (show ¬ (14 : Int32) = 1 by decide), if_neg (show ¬ (14 : Int32) = 2 by decide), if_neg (show ¬ (14 : Int32) = 3 by decide), if_neg (show ¬ (14 : Int32) = 4 by decide), if_neg (show ¬ (14 : Int32) = 5 by decide), if_neg (show ¬ (14 : Int32) = 6 by decide), if_neg (show ¬ (14 : Int32) = 7 by decide), if_neg (show ¬ (14 : Int32) = 8 by decide), if_neg (show ¬ (14 : Int32) = 9 by decide), if_neg (show ¬ (14 : Int32) = 10 by decide), if_neg (show ¬ (14 : Int32) = 11 by decide), if_neg (show ¬ (14 : Int32) = 12 by decide), if_neg (show ¬ (14 : Int32) = 13 by decide), if_pos rfl]
  simp only [h1, h2, h3, h4, h5, h6, if_true]
  have key : ∀ b : Bool, b = (if (xs (Int32.toNatClampNeg (nI (7 * k) + (3 : Int32)))) = 0 then false else true) → F_L_law_606 xs L (F_L_law_18 xs L n) (nI (7 * k)) b (xs (Int32.toNatClampNeg (nI (7 * k) + (2 : Int32)))) (xs (Int32.toNatClampNeg (nI (7 * k) + (1 : Int32)))) h = some () := by
    intro b hb
    obtain ⟨v, v1, v2⟩ := go_owes hI (xs (Int32.toNatClampNeg (nI (7 * k) + (1 : Int32)))) (xs (Int32.toNatClampNeg (nI (7 * k) + (2 : Int32)))) b
    unfold F_L_law_606 F_L_law_633
    rw [v1, Option.bind_some, h1, if_pos rfl, h2, if_pos rfl, h3, if_pos rfl]
    by_cases g : (xs (Int32.toNatClampNeg (nI (7 * k) + (3 : Int32)))) = 0
    · rw [if_pos g] at hb
      subst hb
      rw [if_pos g, v2, Option.bind_some, if_pos rfl]
      exact k943 ih h hI.s
    · rw [if_neg g] at hb
      subst hb
      rw [if_neg g, v2, Option.bind_some, if_pos rfl]
      exact k943 ih h hI.s
  by_cases g : (xs (Int32.toNatClampNeg (nI (7 * k) + (3 : Int32)))) = 0
  · rw [if_pos g]
    exact key false (by rw [if_pos g])
  · rw [if_neg g]
    exact key true (by rw [if_neg g])
set_option maxHeartbeats 1000000 in
theorem op_15 {n k : Nat} {h : Hp} (hL : L ≤ 3584) (hlt : 7 * k + 7 ≤ L) (hI : Inv h k) (ih : ∀ υ, Inv υ (k + 1) → F_L_law_18 xs L n (nI (7 * (k + 1))) υ = some ()) (hop : (xs (7 * k) &&& (31 : Int32)) = 15) : F_L_law_18 xs L (n + 1) (nI (7 * k)) h = some () := by
  have h1 : inb (nI (7 * k) + (1 : Int32)) L = true := ib_k (j := 1) hL hlt (by omega)
  have h2 : inb (nI (7 * k) + (2 : Int32)) L = true := ib_k (j := 2) hL hlt (by omega)
  have h3 : inb (nI (7 * k) + (3 : Int32)) L = true := ib_k (j := 3) hL hlt (by omega)
  have h4 : inb (nI (7 * k) + (4 : Int32)) L = true := ib_k (j := 4) hL hlt (by omega)
  have h5 : inb (nI (7 * k) + (5 : Int32)) L = true := ib_k (j := 5) hL hlt (by omega)
  have h6 : inb (nI (7 * k) + (6 : Int32)) L = true := ib_k (j := 6) hL hlt (by omega)
  rw [F_L_law_18, if_neg (ex_no hL hlt), inb_t (by omega) (by omega), if_pos rfl, cl_nI (by omega), hop, if_neg (show ¬ (15 : Int32) = 0 by decide), if_neg (show ¬ (15 : Int32) = 1 by decide), if_neg (show ¬ (15 : Int32) = 2 by decide), if_neg (show ¬ (15 : Int32) = 3 by decide), if_neg (show ¬ (15 : Int32) = 4 by decide), if_neg (show ¬ (15 : Int32) = 5 by decide), if_neg (show ¬ (15 : Int32) = 6 by decide), if_neg (show ¬ (15 : Int32) = 7 by decide), if_neg (show ¬ (15 : Int32) = 8 by decide), if_neg (show ¬ (15 : Int32) = 9 by decide), if_neg (show ¬ (15 : Int32) = 10 by decide), if_neg (show ¬ (15 : Int32) = 11 by decide), if_neg (show ¬ (15 : Int32) = 12 by decide), if_neg (show ¬ (15 : Int32) = 13 by decide), if_neg (show ¬ (15 : Int32) = 14 by decide), if_pos rfl]
  simp only [h1, h2, h3, h4, h5, h6, if_true]
  exact go_rest (F_L_law_943 xs L (F_L_law_18 xs L n) (nI (7 * k))) hI (k943 ih) _
set_option maxHeartbeats 1000000 in
theorem op_16 {n k : Nat} {h : Hp} (hL : L ≤ 3584) (hlt : 7 * k + 7 ≤ L) (hI : Inv h k) (ih : ∀ υ, Inv υ (k + 1) → F_L_law_18 xs L n (nI (7 * (k + 1))) υ = some ()) (hop : (xs (7 * k) &&& (31 : Int32)) = 16) : F_L_law_18 xs L (n + 1) (nI (7 * k)) h = some () := by
  have h1 : inb (nI (7 * k) + (1 : Int32)) L = true := ib_k (j := 1) hL hlt (by omega)
  have h2 : inb (nI (7 * k) + (2 : Int32)) L = true := ib_k (j := 2) hL hlt (by omega)
  have h3 : inb (nI (7 * k) + (3 : Int32)) L = true := ib_k (j := 3) hL hlt (by omega)
  have h4 : inb (nI (7 * k) + (4 : Int32)) L = true := ib_k (j := 4) hL hlt (by omega)
  have h5 : inb (nI (7 * k) + (5 : Int32)) L = true := ib_k (j := 5) hL hlt (by omega)
  have h6 : inb (nI (7 * k) + (6 : Int32)) L = true := ib_k (j := 6) hL hlt (by omega)
  rw [F_L_law_18, if_neg (ex_no hL hlt), inb_t (by omega) (by omega), if_pos rfl, cl_nI (by omega), hop, if_neg (show ¬ (16 : Int32) = 0 by decide), if_neg (show ¬ (16 : Int32) = 1 by decide), if_neg (show ¬ (16 : Int32) = 2 by decide), if_neg (show ¬ (16 : Int32) = 3 by decide), if_neg (show ¬ (16 : Int32) = 4 by decide), if_neg (show ¬ (16 : Int32) = 5 by decide), if_neg (show ¬ (16 : Int32) = 6 by decide), if_neg (show ¬ (16 : Int32) = 7 by decide), if_neg (show ¬ (16 : Int32) = 8 by decide), if_neg (show ¬ (16 : Int32) = 9 by decide), if_neg (show ¬ (16 : Int32) = 10 by decide), if_neg (show ¬ (16 : Int32) = 11 by decide), if_neg (show ¬ (16 : Int32) = 12 by decide), if_neg (show ¬ (16 : Int32) = 13 by decide), if_neg (show ¬ (16 : Int32) = 14 by decide), if_neg (show ¬ (16 : Int32) = 15 by decide), if_pos rfl]
  simp only [h1, h2, h3, h4, h5, h6, if_true]
  exact go_sledges (F_L_law_943 xs L (F_L_law_18 xs L n) (nI (7 * k))) hI (by omega) (k943 ih) _ _ _
set_option maxHeartbeats 1000000 in
theorem op_17 {n k : Nat} {h : Hp} (hL : L ≤ 3584) (hlt : 7 * k + 7 ≤ L) (hI : Inv h k) (ih : ∀ υ, Inv υ (k + 1) → F_L_law_18 xs L n (nI (7 * (k + 1))) υ = some ()) (hop : (xs (7 * k) &&& (31 : Int32)) = 17) : F_L_law_18 xs L (n + 1) (nI (7 * k)) h = some () := by
  have h1 : inb (nI (7 * k) + (1 : Int32)) L = true := ib_k (j := 1) hL hlt (by omega)
  have h2 : inb (nI (7 * k) + (2 : Int32)) L = true := ib_k (j := 2) hL hlt (by omega)
  have h3 : inb (nI (7 * k) + (3 : Int32)) L = true := ib_k (j := 3) hL hlt (by omega)
  have h4 : inb (nI (7 * k) + (4 : Int32)) L = true := ib_k (j := 4) hL hlt (by omega)
  have h5 : inb (nI (7 * k) + (5 : Int32)) L = true := ib_k (j := 5) hL hlt (by omega)
  have h6 : inb (nI (7 * k) + (6 : Int32)) L = true := ib_k (j := 6) hL hlt (by omega)
  rw [F_L_law_18, if_neg (ex_no hL hlt), inb_t (by omega) (by omega), if_pos rfl, cl_nI (by omega), hop, if_neg (show ¬ (17 : Int32) = 0 by decide), if_neg (show ¬ (17 : Int32) = 1 by decide), if_neg (show ¬ (17 : Int32) = 2 by decide), if_neg (show ¬ (17 : Int32) = 3 by decide), if_neg (show ¬ (17 : Int32) = 4 by decide), if_neg (show ¬ (17 : Int32) = 5 by decide), if_neg (show ¬ (17 : Int32) = 6 by decide), if_neg (show ¬ (17 : Int32) = 7 by decide), if_neg (show ¬ (17 : Int32) = 8 by decide), if_neg (show ¬ (17 : Int32) = 9 by decide), if_neg (show ¬ (17 : Int32) = 10 by decide), if_neg (show ¬ (17 : Int32) = 11 by decide), if_neg (show ¬ (17 : Int32) = 12 by decide), if_neg (show ¬ (17 : Int32) = 13 by decide), if_neg (show ¬ (17 : Int32) = 14 by decide), if_neg (show ¬ (17 : Int32) = 15 by decide), if_neg (show ¬ (17 : Int32) = 16 by decide), if_pos rfl]
  simp only [h1, h2, h3, h4, h5, h6, if_true]
  exact go_settled (F_L_law_943 xs L (F_L_law_18 xs L n) (nI (7 * k))) hI (by omega) (k943 ih) _
set_option maxHeartbeats 1000000 in
theorem op_18 {n k : Nat} {h : Hp} (hL : L ≤ 3584) (hlt : 7 * k + 7 ≤ L) (hI : Inv h k) (ih : ∀ υ, Inv υ (k + 1) → F_L_law_18 xs L n (nI (7 * (k + 1))) υ = some ()) (hop : (xs (7 * k) &&& (31 : Int32)) = 18) : F_L_law_18 xs L (n + 1) (nI (7 * k)) h = some () := by
  have h1 : inb (nI (7 * k) + (1 : Int32)) L = true := ib_k (j := 1) hL hlt (by omega)
  have h2 : inb (nI (7 * k) + (2 : Int32)) L = true := ib_k (j := 2) hL hlt (by omega)
  have h3 : inb (nI (7 * k) + (3 : Int32)) L = true := ib_k (j := 3) hL hlt (by omega)
  have h4 : inb (nI (7 * k) + (4 : Int32)) L = true := ib_k (j := 4) hL hlt (by omega)
  have h5 : inb (nI (7 * k) + (5 : Int32)) L = true := ib_k (j := 5) hL hlt (by omega)
  have h6 : inb (nI (7 * k) + (6 : Int32)) L = true := ib_k (j := 6) hL hlt (by omega)
  rw [F_L_law_18, if_neg (ex_no hL hlt), inb_t (by omega) (by omega), if_pos rfl, cl_nI (by omega), hop, if_neg (show ¬ (18 : Int32) = 0 by decide), if_neg (show ¬ (18 : Int32) = 1 by decide), if_neg (show ¬ (18 : Int32) = 2 by decide), if_neg (show ¬ (18 : Int32) = 3 by decide), if_neg (show ¬ (18 : Int32) = 4 by decide), if_neg (show ¬ (18 : Int32) = 5 by decide), if_neg (show ¬ (18 : Int32) = 6 by decide), if_neg (show ¬ (18 : Int32) = 7 by decide), if_neg (show ¬ (18 : Int32) = 8 by decide), if_neg (show ¬ (18 : Int32) = 9 by decide), if_neg (show ¬ (18 : Int32) = 10 by decide), if_neg (show ¬ (18 : Int32) = 11 by decide), if_neg (show ¬ (18 : Int32) = 12 by decide), if_neg (show ¬ (18 : Int32) = 13 by decide), if_neg (show ¬ (18 : Int32) = 14 by decide), if_neg (show ¬ (18 : Int32) = 15 by decide), if_neg (show ¬ (18 : Int32) = 16 by decide), if_neg (show ¬ (18 : Int32) = 17 by decide), if_pos rfl]
  simp only [h1, h2, h3, h4, h5, h6, if_true]
  exact go_skate (F_L_law_943 xs L (F_L_law_18 xs L n) (nI (7 * k))) hI (by omega) (k943 ih) _ _ _
set_option maxHeartbeats 1000000 in
theorem op_19 {n k : Nat} {h : Hp} (hL : L ≤ 3584) (hlt : 7 * k + 7 ≤ L) (hI : Inv h k) (ih : ∀ υ, Inv υ (k + 1) → F_L_law_18 xs L n (nI (7 * (k + 1))) υ = some ()) (hop : (xs (7 * k) &&& (31 : Int32)) = 19) : F_L_law_18 xs L (n + 1) (nI (7 * k)) h = some () := by
  have h1 : inb (nI (7 * k) + (1 : Int32)) L = true := ib_k (j := 1) hL hlt (by omega)
  have h2 : inb (nI (7 * k) + (2 : Int32)) L = true := ib_k (j := 2) hL hlt (by omega)
  have h3 : inb (nI (7 * k) + (3 : Int32)) L = true := ib_k (j := 3) hL hlt (by omega)
  have h4 : inb (nI (7 * k) + (4 : Int32)) L = true := ib_k (j := 4) hL hlt (by omega)
  have h5 : inb (nI (7 * k) + (5 : Int32)) L = true := ib_k (j := 5) hL hlt (by omega)
  have h6 : inb (nI (7 * k) + (6 : Int32)) L = true := ib_k (j := 6) hL hlt (by omega)
  rw [F_L_law_18, if_neg (ex_no hL hlt), inb_t (by omega) (by omega), if_pos rfl, cl_nI (by omega), hop, if_neg (show ¬ (19 : Int32) = 0 by decide), if_neg (show ¬ (19 : Int32) = 1 by decide), if_neg (show ¬ (19 : Int32) = 2 by decide), if_neg (show ¬ (19 : Int32) = 3 by decide), if_neg (show ¬ (19 : Int32) = 4 by decide), if_neg (show ¬ (19 : Int32) = 5 by decide), if_neg (show ¬ (19 : Int32) = 6 by decide), if_neg (show ¬ (19 : Int32) = 7 by decide), if_neg (show ¬ (19 : Int32) = 8 by decide), if_neg (show ¬ (19 : Int32) = 9 by decide), if_neg (show ¬ (19 : Int32) = 10 by decide), if_neg (show ¬ (19 : Int32) = 11 by decide), if_neg (show ¬ (19 : Int32) = 12 by decide), if_neg (show ¬ (19 : Int32) = 13 by decide), if_neg (show ¬ (19 : Int32) = 14 by decide), if_neg (show ¬ (19 : Int32) = 15 by decide), if_neg (show ¬ (19 : Int32) = 16 by decide), if_neg (show ¬ (19 : Int32) = 17 by decide), if_neg (show ¬ (19 : Int32) = 18 by decide), if_pos rfl]
  simp only [h1, h2, h3, h4, h5, h6, if_true]
  exact go_odds (F_L_law_943 xs L (F_L_law_18 xs L n) (nI (7 * k))) hI (k943 ih) _ _ _ _ _
set_option maxHeartbeats 1000000 in
theorem op_20 {n k : Nat} {h : Hp} (hL : L ≤ 3584) (hlt : 7 * k + 7 ≤ L) (hI : Inv h k) (ih : ∀ υ, Inv υ (k + 1) → F_L_law_18 xs L n (nI (7 * (k + 1))) υ = some ()) (hop : (xs (7 * k) &&& (31 : Int32)) = 20) : F_L_law_18 xs L (n + 1) (nI (7 * k)) h = some () := by
  have h1 : inb (nI (7 * k) + (1 : Int32)) L = true := ib_k (j := 1) hL hlt (by omega)
  have h2 : inb (nI (7 * k) + (2 : Int32)) L = true := ib_k (j := 2) hL hlt (by omega)
  have h3 : inb (nI (7 * k) + (3 : Int32)) L = true := ib_k (j := 3) hL hlt (by omega)
  have h4 : inb (nI (7 * k) + (4 : Int32)) L = true := ib_k (j := 4) hL hlt (by omega)
  have h5 : inb (nI (7 * k) + (5 : Int32)) L = true := ib_k (j := 5) hL hlt (by omega)
  have h6 : inb (nI (7 * k) + (6 : Int32)) L = true := ib_k (j := 6) hL hlt (by omega)
  rw [F_L_law_18, if_neg (ex_no hL hlt), inb_t (by omega) (by omega), if_pos rfl, cl_nI (by omega), hop, if_neg (show ¬ (20 : Int32) = 0 by decide), if_neg (show ¬ (20 : Int32) = 1 by decide), if_neg (show ¬ (20 : Int32) = 2 by decide), if_neg (show ¬ (20 : Int32) = 3 by decide), if_neg (show ¬ (20 : Int32) = 4 by decide), if_neg (show ¬ (20 : Int32) = 5 by decide), if_neg (show ¬ (20 : Int32) = 6 by decide), if_neg (show ¬ (20 : Int32) = 7 by decide), if_neg (show ¬ (20 : Int32) = 8 by decide), if_neg (show ¬ (20 : Int32) = 9 by decide), if_neg (show ¬ (20 : Int32) = 10 by decide), if_neg (show ¬ (20 : Int32) = 11 by decide), if_neg (show ¬ (20 : Int32) = 12 by decide), if_neg (show ¬ (20 : Int32) = 13 by decide), if_neg (show ¬ (20 : Int32) = 14 by decide), if_neg (show ¬ (20 : Int32) = 15 by decide), if_neg (show ¬ (20 : Int32) = 16 by decide), if_neg (show ¬ (20 : Int32) = 17 by decide), if_neg (show ¬ (20 : Int32) = 18 by decide), if_neg (show ¬ (20 : Int32) = 19 by decide), if_pos rfl]
  simp only [h1, h2, h3, h4, h5, h6, if_true]
  exact go_winter (F_L_law_943 xs L (F_L_law_18 xs L n) (nI (7 * k))) hI (by omega) (k943 ih) _ _ _
set_option maxHeartbeats 1000000 in
theorem op_21 {n k : Nat} {h : Hp} (hL : L ≤ 3584) (hlt : 7 * k + 7 ≤ L) (hI : Inv h k) (ih : ∀ υ, Inv υ (k + 1) → F_L_law_18 xs L n (nI (7 * (k + 1))) υ = some ()) (hop : (xs (7 * k) &&& (31 : Int32)) = 21) : F_L_law_18 xs L (n + 1) (nI (7 * k)) h = some () := by
  have h1 : inb (nI (7 * k) + (1 : Int32)) L = true := ib_k (j := 1) hL hlt (by omega)
  have h2 : inb (nI (7 * k) + (2 : Int32)) L = true := ib_k (j := 2) hL hlt (by omega)
  have h3 : inb (nI (7 * k) + (3 : Int32)) L = true := ib_k (j := 3) hL hlt (by omega)
  have h4 : inb (nI (7 * k) + (4 : Int32)) L = true := ib_k (j := 4) hL hlt (by omega)
  have h5 : inb (nI (7 * k) + (5 : Int32)) L = true := ib_k (j := 5) hL hlt (by omega)
  have h6 : inb (nI (7 * k) + (6 : Int32)) L = true := ib_k (j := 6) hL hlt (by omega)
  rw [F_L_law_18, if_neg (ex_no hL hlt), inb_t (by omega) (by omega), if_pos rfl, cl_nI (by omega), hop, if_neg (show ¬ (21 : Int32) = 0 by decide), if_neg (show ¬ (21 : Int32) = 1 by decide), if_neg (show ¬ (21 : Int32) = 2 by decide), if_neg (show ¬ (21 : Int32) = 3 by decide), if_neg (show ¬ (21 : Int32) = 4 by decide), if_neg (show ¬ (21 : Int32) = 5 by decide), if_neg (show ¬ (21 : Int32) = 6 by decide), if_neg (show ¬ (21 : Int32) = 7 by decide), if_neg (show ¬ (21 : Int32) = 8 by decide), if_neg (show ¬ (21 : Int32) = 9 by decide), if_neg (show ¬ (21 : Int32) = 10 by decide), if_neg (show ¬ (21 : Int32) = 11 by decide), if_neg (show ¬ (21 : Int32) = 12 by decide), if_neg (show ¬ (21 : Int32) = 13 by decide), if_neg (show ¬ (21 : Int32) = 14 by decide), if_neg (show ¬ (21 : Int32) = 15 by decide), if_neg (show ¬ (21 : Int32) = 16 by decide), if_neg (show ¬ (21 : Int32) = 17 by decide), if_neg (show ¬ (21 : Int32) = 18 by decide), if_neg (show ¬ (21 : Int32) = 19 by decide), if_neg (show ¬ (21 : Int32) = 20 by decide), if_pos rfl]
  exact go_image (F_L_law_943 xs L (F_L_law_18 xs L n) (nI (7 * k))) hI (by omega) (k943 ih)
set_option maxHeartbeats 1000000 in
theorem op_22 {n k : Nat} {h : Hp} (hL : L ≤ 3584) (hlt : 7 * k + 7 ≤ L) (hI : Inv h k) (ih : ∀ υ, Inv υ (k + 1) → F_L_law_18 xs L n (nI (7 * (k + 1))) υ = some ()) (hop : (xs (7 * k) &&& (31 : Int32)) = 22) : F_L_law_18 xs L (n + 1) (nI (7 * k)) h = some () := by
  have h1 : inb (nI (7 * k) + (1 : Int32)) L = true := ib_k (j := 1) hL hlt (by omega)
  have h2 : inb (nI (7 * k) + (2 : Int32)) L = true := ib_k (j := 2) hL hlt (by omega)
  have h3 : inb (nI (7 * k) + (3 : Int32)) L = true := ib_k (j := 3) hL hlt (by omega)
  have h4 : inb (nI (7 * k) + (4 : Int32)) L = true := ib_k (j := 4) hL hlt (by omega)
  have h5 : inb (nI (7 * k) + (5 : Int32)) L = true := ib_k (j := 5) hL hlt (by omega)
  have h6 : inb (nI (7 * k) + (6 : Int32)) L = true := ib_k (j := 6) hL hlt (by omega)
  rw [F_L_law_18, if_neg (ex_no hL hlt), inb_t (by omega) (by omega), if_pos rfl, cl_nI (by omega), hop, if_neg (show ¬ (22 : Int32) = 0 by decide), if_neg (show ¬ (22 : Int32) = 1 by decide), if_neg (show ¬ (22 : Int32) = 2 by decide), if_neg (show ¬ (22 : Int32) = 3 by decide), if_neg (show ¬ (22 : Int32) = 4 by decide), if_neg (show ¬ (22 : Int32) = 5 by decide), if_neg (show ¬ (22 : Int32) = 6 by decide), if_neg (show ¬ (22 : Int32) = 7 by decide), if_neg (show ¬ (22 : Int32) = 8 by decide), if_neg (show ¬ (22 : Int32) = 9 by decide), if_neg (show ¬ (22 : Int32) = 10 by decide), if_neg (show ¬ (22 : Int32) = 11 by decide), if_neg (show ¬ (22 : Int32) = 12 by decide), if_neg (show ¬ (22 : Int32) = 13 by decide), if_neg (show ¬ (22 : Int32) = 14 by decide), if_neg (show ¬ (22 : Int32) = 15 by decide), if_neg (show ¬ (22 : Int32) = 16 by decide), if_neg (show ¬ (22 : Int32) = 17 by decide), if_neg (show ¬ (22 : Int32) = 18 by decide), if_neg (show ¬ (22 : Int32) = 19 by decide), if_neg (show ¬ (22 : Int32) = 20 by decide), if_neg (show ¬ (22 : Int32) = 21 by decide), if_pos rfl]
  exact go_restore (F_L_law_943 xs L (F_L_law_18 xs L n) (nI (7 * k))) hI (by omega) (k943 ih)
set_option maxHeartbeats 1000000 in
theorem op_23 {n k : Nat} {h : Hp} (hL : L ≤ 3584) (hlt : 7 * k + 7 ≤ L) (hI : Inv h k) (ih : ∀ υ, Inv υ (k + 1) → F_L_law_18 xs L n (nI (7 * (k + 1))) υ = some ()) (hop : (xs (7 * k) &&& (31 : Int32)) = 23) : F_L_law_18 xs L (n + 1) (nI (7 * k)) h = some () := by
  have h1 : inb (nI (7 * k) + (1 : Int32)) L = true := ib_k (j := 1) hL hlt (by omega)
  have h2 : inb (nI (7 * k) + (2 : Int32)) L = true := ib_k (j := 2) hL hlt (by omega)
  have h3 : inb (nI (7 * k) + (3 : Int32)) L = true := ib_k (j := 3) hL hlt (by omega)
  have h4 : inb (nI (7 * k) + (4 : Int32)) L = true := ib_k (j := 4) hL hlt (by omega)
  have h5 : inb (nI (7 * k) + (5 : Int32)) L = true := ib_k (j := 5) hL hlt (by omega)
  have h6 : inb (nI (7 * k) + (6 : Int32)) L = true := ib_k (j := 6) hL hlt (by omega)
  rw [F_L_law_18, if_neg (ex_no hL hlt), inb_t (by omega) (by omega), if_pos rfl, cl_nI (by omega), hop, if_neg (show ¬ (23 : Int32) = 0 by decide), if_neg (show ¬ (23 : Int32) = 1 by decide), if_neg (show ¬ (23 : Int32) = 2 by decide), if_neg (show ¬ (23 : Int32) = 3 by decide), if_neg (show ¬ (23 : Int32) = 4 by decide), if_neg (show ¬ (23 : Int32) = 5 by decide), if_neg (show ¬ (23 : Int32) = 6 by decide), if_neg (show ¬ (23 : Int32) = 7 by decide), if_neg (show ¬ (23 : Int32) = 8 by decide), if_neg (show ¬ (23 : Int32) = 9 by decide), if_neg (show ¬ (23 : Int32) = 10 by decide), if_neg (show ¬ (23 : Int32) = 11 by decide), if_neg (show ¬ (23 : Int32) = 12 by decide), if_neg (show ¬ (23 : Int32) = 13 by decide), if_neg (show ¬ (23 : Int32) = 14 by decide), if_neg (show ¬ (23 : Int32) = 15 by decide), if_neg (show ¬ (23 : Int32) = 16 by decide), if_neg (show ¬ (23 : Int32) = 17 by decide), if_neg (show ¬ (23 : Int32) = 18 by decide), if_neg (show ¬ (23 : Int32) = 19 by decide), if_neg (show ¬ (23 : Int32) = 20 by decide), if_neg (show ¬ (23 : Int32) = 21 by decide), if_neg (show ¬ (23 : Int32) = 22 by decide), if_pos rfl]
  simp only [h1, h2, h3, h4, h5, h6, if_true]
  exact go_count (F_L_law_943 xs L (F_L_law_18 xs L n) (nI (7 * k))) hI (k943 ih) _
set_option maxHeartbeats 1000000 in
theorem op_24 {n k : Nat} {h : Hp} (hL : L ≤ 3584) (hlt : 7 * k + 7 ≤ L) (hI : Inv h k) (ih : ∀ υ, Inv υ (k + 1) → F_L_law_18 xs L n (nI (7 * (k + 1))) υ = some ()) (hop : (xs (7 * k) &&& (31 : Int32)) = 24) : F_L_law_18 xs L (n + 1) (nI (7 * k)) h = some () := by
  have h1 : inb (nI (7 * k) + (1 : Int32)) L = true := ib_k (j := 1) hL hlt (by omega)
  have h2 : inb (nI (7 * k) + (2 : Int32)) L = true := ib_k (j := 2) hL hlt (by omega)
  have h3 : inb (nI (7 * k) + (3 : Int32)) L = true := ib_k (j := 3) hL hlt (by omega)
  have h4 : inb (nI (7 * k) + (4 : Int32)) L = true := ib_k (j := 4) hL hlt (by omega)
  have h5 : inb (nI (7 * k) + (5 : Int32)) L = true := ib_k (j := 5) hL hlt (by omega)
  have h6 : inb (nI (7 * k) + (6 : Int32)) L = true := ib_k (j := 6) hL hlt (by omega)
  rw [F_L_law_18, if_neg (ex_no hL hlt), inb_t (by omega) (by omega), if_pos rfl, cl_nI (by omega), hop, if_neg (show ¬ (24 : Int32) = 0 by decide), if_neg (show ¬ (24 : Int32) = 1 by decide), if_neg (show ¬ (24 : Int32) = 2 by decide), if_neg (show ¬ (24 : Int32) = 3 by decide), if_neg (show ¬ (24 : Int32) = 4 by decide), if_neg (show ¬ (24 : Int32) = 5 by decide), if_neg (show ¬ (24 : Int32) = 6 by decide), if_neg (show ¬ (24 : Int32) = 7 by decide), if_neg (show ¬ (24 : Int32) = 8 by decide), if_neg (show ¬ (24 : Int32) = 9 by decide), if_neg (show ¬ (24 : Int32) = 10 by decide), if_neg (show ¬ (24 : Int32) = 11 by decide), if_neg (show ¬ (24 : Int32) = 12 by decide), if_neg (show ¬ (24 : Int32) = 13 by decide), if_neg (show ¬ (24 : Int32) = 14 by decide), if_neg (show ¬ (24 : Int32) = 15 by decide), if_neg (show ¬ (24 : Int32) = 16 by decide), if_neg (show ¬ (24 : Int32) = 17 by decide), if_neg (show ¬ (24 : Int32) = 18 by decide), if_neg (show ¬ (24 : Int32) = 19 by decide), if_neg (show ¬ (24 : Int32) = 20 by decide), if_neg (show ¬ (24 : Int32) = 21 by decide), if_neg (show ¬ (24 : Int32) = 22 by decide), if_neg (show ¬ (24 : Int32) = 23 by decide), if_pos rfl]
  exact go_digest (F_L_law_943 xs L (F_L_law_18 xs L n) (nI (7 * k))) hI (by omega) (k943 ih)
set_option maxHeartbeats 1000000 in
theorem op_no {n k : Nat} {h : Hp} (hL : L ≤ 3584) (hlt : 7 * k + 7 ≤ L) (hI : Inv h k) (ih : ∀ υ, Inv υ (k + 1) → F_L_law_18 xs L n (nI (7 * (k + 1))) υ = some ()) (hop : ∀ j, j < 25 → ¬ (xs (7 * k) &&& (31 : Int32)) = nI j) : F_L_law_18 xs L (n + 1) (nI (7 * k)) h = some () := by
  rw [F_L_law_18, if_neg (ex_no hL hlt), inb_t (by omega) (by omega), if_pos rfl, cl_nI (by omega), if_neg (show ¬ (xs (7 * k) &&& (31 : Int32)) = 0 from hop 0 (by omega)), if_neg (show ¬ (xs (7 * k) &&& (31 : Int32)) = 1 from hop 1 (by omega)), if_neg (show ¬ (xs (7 * k) &&& (31 : Int32)) = 2 from hop 2 (by omega)), if_neg (show ¬ (xs (7 * k) &&& (31 : Int32)) = 3 from hop 3 (by omega)), if_neg (show ¬ (xs (7 * k) &&& (31 : Int32)) = 4 from hop 4 (by omega)), if_neg (show ¬ (xs (7 * k) &&& (31 : Int32)) = 5 from hop 5 (by omega)), if_neg (show ¬ (xs (7 * k) &&& (31 : Int32)) = 6 from hop 6 (by omega)), if_neg (show ¬ (xs (7 * k) &&& (31 : Int32)) = 7 from hop 7 (by omega)), if_neg (show ¬ (xs (7 * k) &&& (31 : Int32)) = 8 from hop 8 (by omega)), if_neg (show ¬ (xs (7 * k) &&& (31 : Int32)) = 9 from hop 9 (by omega)), if_neg (show ¬ (xs (7 * k) &&& (31 : Int32)) = 10 from hop 10 (by omega)), if_neg (show ¬ (xs (7 * k) &&& (31 : Int32)) = 11 from hop 11 (by omega)), if_neg (show ¬ (xs (7 * k) &&& (31 : Int32)) = 12 from hop 12 (by omega)), if_neg (show ¬ (xs (7 * k) &&& (31 : Int32)) = 13 from hop 13 (by omega)), if_neg (show ¬ (xs (7 * k) &&& (31 : Int32)) = 14 from hop 14 (by omega)), if_neg (show ¬ (xs (7 * k) &&& (31 : Int32)) = 15 from hop 15 (by omega)), if_neg (show ¬ (xs (7 * k) &&& (31 : Int32)) = 16 from hop 16 (by omega)), if_neg (show ¬ (xs (7 * k) &&& (31 : Int32)) = 17 from hop 17 (by omega)), if_neg (show ¬ (xs (7 * k) &&& (31 : Int32)) = 18 from hop 18 (by omega)), if_neg (show ¬ (xs (7 * k) &&& (31 : Int32)) = 19 from hop 19 (by omega)), if_neg (show ¬ (xs (7 * k) &&& (31 : Int32)) = 20 from hop 20 (by omega)), if_neg (show ¬ (xs (7 * k) &&& (31 : Int32)) = 21 from hop 21 (by omega)), if_neg (show ¬ (xs (7 * k) &&& (31 : Int32)) = 22 from hop 22 (by omega)), if_neg (show ¬ (xs (7 * k) &&& (31 : Int32)) = 23 from hop 23 (by omega)), if_neg (show ¬ (xs (7 * k) &&& (31 : Int32)) = 24 from hop 24 (by omega))]
  exact k943 ih h hI.s
theorem pure_loop (hL : L ≤ 3584) : ∀ n k h, 7 * k ≤ L → L < 7 * (k + n) → Inv h k → F_L_law_18 xs L n (nI (7 * k)) h = some () := by
  intro n
  induction n with
  | zero => intro k h h1 h2; omega
  | succ n ih =>
    intro k h h1 h2 hI
    by_cases hlt : 7 * k + 7 ≤ L
    · have ih' : ∀ υ, Inv υ (k + 1) → F_L_law_18 xs L n (nI (7 * (k + 1))) υ = some () := fun υ hυ => ih (k + 1) υ (by omega) (by omega) hυ
      by_cases g0 : (xs (7 * k) &&& (31 : Int32)) = 0
      · exact op_0 hL hlt hI ih' g0
      by_cases g1 : (xs (7 * k) &&& (31 : Int32)) = 1
      · exact op_1 hL hlt hI ih' g1
      by_cases g2 : (xs (7 * k) &&& (31 : Int32)) = 2
      · exact op_2 hL hlt hI ih' g2
      by_cases g3 : (xs (7 * k) &&& (31 : Int32)) = 3
      · exact op_3 hL hlt hI ih' g3
      by_cases g4 : (xs (7 * k) &&& (31 : Int32)) = 4
      · exact op_4 hL hlt hI ih' g4
      by_cases g5 : (xs (7 * k) &&& (31 : Int32)) = 5
      · exact op_5 hL hlt hI ih' g5
      by_cases g6 : (xs (7 * k) &&& (31 : Int32)) = 6
      · exact op_6 hL hlt hI ih' g6
      by_cases g7 : (xs (7 * k) &&& (31 : Int32)) = 7
      · exact op_7 hL hlt hI ih' g7
      by_cases g8 : (xs (7 * k) &&& (31 : Int32)) = 8
      · exact op_8 hL hlt hI ih' g8
      by_cases g9 : (xs (7 * k) &&& (31 : Int32)) = 9
      · exact op_9 hL hlt hI ih' g9
      by_cases g10 : (xs (7 * k) &&& (31 : Int32)) = 10
      · exact op_10 hL hlt hI ih' g10
      by_cases g11 : (xs (7 * k) &&& (31 : Int32)) = 11
      · exact op_11 hL hlt hI ih' g11
      by_cases g12 : (xs (7 * k) &&& (31 : Int32)) = 12
      · exact op_12 hL hlt hI ih' g12
      by_cases g13 : (xs (7 * k) &&& (31 : Int32)) = 13
      · exact op_13 hL hlt hI ih' g13
      by_cases g14 : (xs (7 * k) &&& (31 : Int32)) = 14
      · exact op_14 hL hlt hI ih' g14
      by_cases g15 : (xs (7 * k) &&& (31 : Int32)) = 15
      · exact op_15 hL hlt hI ih' g15
      by_cases g16 : (xs (7 * k) &&& (31 : Int32)) = 16
      · exact op_16 hL hlt hI ih' g16
      by_cases g17 : (xs (7 * k) &&& (31 : Int32)) = 17
      · exact op_17 hL hlt hI ih' g17
      by_cases g18 : (xs (7 * k) &&& (31 : Int32)) = 18
      · exact op_18 hL hlt hI ih' g18
      by_cases g19 : (xs (7 * k) &&& (31 : Int32)) = 19
      · exact op_19 hL hlt hI ih' g19
      by_cases g20 : (xs (7 * k) &&& (31 : Int32)) = 20
      · exact op_20 hL hlt hI ih' g20
      by_cases g21 : (xs (7 * k) &&& (31 : Int32)) = 21
      · exact op_21 hL hlt hI ih' g21
      by_cases g22 : (xs (7 * k) &&& (31 : Int32)) = 22
      · exact op_22 hL hlt hI ih' g22
      by_cases g23 : (xs (7 * k) &&& (31 : Int32)) = 23
      · exact op_23 hL hlt hI ih' g23
      by_cases g24 : (xs (7 * k) &&& (31 : Int32)) = 24
      · exact op_24 hL hlt hI ih' g24
      refine op_no hL hlt hI ih' (fun j hj => ?_)
      have hj' : j = 0 ∨ j = 1 ∨ j = 2 ∨ j = 3 ∨ j = 4 ∨ j = 5 ∨ j = 6 ∨ j = 7 ∨ j = 8 ∨ j = 9 ∨ j = 10 ∨ j = 11 ∨ j = 12 ∨ j = 13 ∨ j = 14 ∨ j = 15 ∨ j = 16 ∨ j = 17 ∨ j = 18 ∨ j = 19 ∨ j = 20 ∨ j = 21 ∨ j = 22 ∨ j = 23 ∨ j = 24 := by omega
      rcases hj' with rfl | rfl | rfl | rfl | rfl | rfl | rfl | rfl | rfl | rfl | rfl | rfl | rfl | rfl | rfl | rfl | rfl | rfl | rfl | rfl | rfl | rfl | rfl | rfl | rfl
      · exact g0
      · exact g1
      · exact g2
      · exact g3
      · exact g4
      · exact g5
      · exact g6
      · exact g7
      · exact g8
      · exact g9
      · exact g10
      · exact g11
      · exact g12
      · exact g13
      · exact g14
      · exact g15
      · exact g16
      · exact g17
      · exact g18
      · exact g19
      · exact g20
      · exact g21
      · exact g22
      · exact g23
      · exact g24
    · rw [F_L_law_18, if_pos (ex_yes hL h1 hlt)]
end LOOP
theorem pure_main (xs : Nat → Int32) (L : Nat) (hL : L ≤ 3584) : F_L_law_18 xs L fuel 0 sg0 = some () :=
  pure_loop hL fuel 0 sg0 (by omega) (by have := fuel_ge; omega) Inv_0
