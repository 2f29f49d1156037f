/-! needed, bears, count -/
section NEED
variable {σ : Hp} {m : Tw} {kp : Option Tw} {pg : Nat → Nat} {pn ld lk : Nat}
/-- does a stroke outlast r days from day j on -/
def ol (pg : Nat → Nat) (kd : Nat) : Nat → Nat → Nat → Nat → Bool
  | 0, _, _, _ => true
  | r + 1, j, ice, cut => if dK pg j = 1 then (if kd = 3 ∨ ice - dI pg j = 0 ∨ cut - lost kd (dI pg j) = 0 then false else ol pg kd r (j + 1) (ice - dI pg j) (cut - lost kd (dI pg j))) else ol pg kd r (j + 1) (dyI (dK pg j) (dI pg j) ice) cut
theorem dyI_le {k i v : Nat} (h : v ≤ 99) : dyI k i v ≤ 99 := by
  unfold dyI; repeat' split
  all_goals omega
theorem c_outlasts (hp : pn ≤ 24) (h1 : σ.1 39 1 = nI pn) (h2 : ∀ i, i < pn → σ.1 40 i = nI (pg i)) (h3 : ∀ i, i < pn → pg i ≤ 255) {q kd : Nat} (hk : kd ≤ 4) (hP : Pv pg pn q false) (hB : Pb pg q false) : ∀ r j ice cut n, j + r = q → 2 * r < n → ice ≤ 99 → cut ≤ 18 → 0 < cut → F_X2_outlasts_9 σ n (nI kd) (nI ice) (nI cut) (nI (ps pg j)) = some (ol pg kd r j ice cut) := by
  have no0 : ∀ {c : Nat}, c ≤ 18 → 0 < c → ¬ nI c ≤ 0 := fun h1 h2 => le_no (b := 0) (by omega) (by omega) h2
  intro r
  induction r with
  | zero =>
    intro j ice cut n hj hn hi hc h0
    obtain ⟨n, rfl⟩ : ∃ k, n = k + 1 := ⟨n - 1, by omega⟩
    have : j = q := by omega
    subst this
    rw [F_X2_outlasts_9, h1, hP.2.1 rfl, if_pos (nle.mp (fun z => by have := (nI_ltI (by omega) (by omega)).mp z; omega))]
    unfold F_X2_outlasts_88
    rw [if_neg (no0 hc h0)]
    rfl
  | succ r ih =>
    intro j ice cut n hj hn hi hc h0
    obtain ⟨n, rfl⟩ : ∃ k, n = k + 1 := ⟨n - 1, by omega⟩
    have hjq : j < q := by omega
    have hl := ps_lt hP hjq
    have hd9 := dI_le hP hjq
    have hk3 : dK pg j ≤ 3 := dk_le _
    have nxt : ∀ ice' cut', ice' ≤ 99 → cut' ≤ 18 → F_X2_outlasts_9 σ n (nI kd) (nI ice') (nI cut') (nI (ps pg j + 1)) = some (if cut' = 0 then false else ol pg kd r (j + 1) ice' cut') := by
      intro ice' cut' hi' hc'
      obtain ⟨n, rfl⟩ : ∃ k, n = k + 1 := ⟨n - 1, by omega⟩
      by_cases g : cut' = 0
      · subst g
        have e8 : F_X2_outlasts_88 σ (nI 0) = some false := by unfold F_X2_outlasts_88; rw [if_pos (by decide +kernel)]
        rw [if_pos rfl, F_X2_outlasts_9, e8, if_pos (show nI 0 ≤ 0 by decide +kernel)]
        split <;> rfl
      · rw [if_neg g]
        rcases ln_12 (pg (ps pg j)) with e | e
        · have := ih (j + 1) ice' cut' (n + 1) (by omega) (by omega) hi' hc' (by omega)
          rw [show ps pg (j + 1) = ps pg j + 1 by show ps pg j + ln (pg (ps pg j)) = _; rw [e]] at this
          exact this
        · rw [F_X2_outlasts_9, h1, if_neg (le_no (by omega) (by omega) (ps2_lt hP hjq e)), if_neg (no0 hc' (by omega)), c_begF hp h2 h3 hP hjq e, Option.bind_some, if_neg (by decide)]
          unfold F_X2_outlasts_82
          have := ih (j + 1) ice' cut' n (by omega) (by omega) hi' hc' (by omega)
          rw [show ps pg (j + 1) = ps pg j + 1 + 1 by show ps pg j + ln (pg (ps pg j)) = _; rw [e]] at this
          rw [nI_1]
          exact this
    rw [F_X2_outlasts_9, h1, if_neg (le_no (by omega) (by omega) hl), if_neg (no0 hc h0), c_begT hp h2 h3 hP hB hjq, Option.bind_some, if_pos rfl, c_dayAt hp h2 h3 hP hjq, Option.bind_some, c_inchesAt hp h1 h2 h3 hP hjq, Option.bind_some, c_iceBehind hk3 hd9 hi, lt_p, Option.bind_some, Option.bind_some]
    unfold F_X2_outlasts_80 F_X2_outlasts_82
    rw [c_cutBehind hk hc hd9 (dyI_le hi), nI_1, li1, ol]
    simp (disch := omega) only [nI_eq]
    by_cases e1 : dK pg j = 1
    · rw [if_pos e1, if_pos e1]
      have eI : dyI (dK pg j) (dI pg j) ice = ice - dI pg j := by unfold dyI; rw [e1]; rfl
      rw [eI]
      by_cases g1 : kd = 3 ∨ ice - dI pg j = 0
      · rw [if_pos g1, if_pos (by rcases g1 with g | g; exact Or.inl g; exact Or.inr (Or.inl g))]
        exact (nxt _ 0 (by omega) (by omega)).trans (by rw [if_pos rfl])
      · rw [if_neg g1, nxt _ _ (by omega) (by omega)]
        by_cases g2 : cut - lost kd (dI pg j) = 0
        · rw [if_pos g2, if_pos (Or.inr (Or.inr g2))]
        · rw [if_neg g2, if_neg (fun z => z.elim (fun z => g1 (Or.inl z)) (fun z => z.elim (fun z => g1 (Or.inr z)) g2))]
    · rw [if_neg e1, if_neg e1, nxt _ _ (dyI_le hi) hc, if_neg (by omega)]
theorem r_stays1 {h : Hp} {q kd : Nat} (hk : kd ≤ 4) (hq : q ≤ 12) (h10 : h.1 55 10 = nI q) (hA : Ar pg h q false) (hP : Pv pg pn q false) : ∀ r j ice cut n, j + r = q → r < n → ice ≤ 99 → cut ≤ 18 → 0 < cut → F_X7_stays_23 h n (nI kd) (nI cut) (nI ice) true (nI j) = some (ol pg kd r j ice cut) := by
  have hfalse : ∀ n j (a b : Int32), 0 < n → F_X7_stays_23 h n (nI kd) a b false (nI j) = some false := by
    intro n j a b hn
    obtain ⟨n, rfl⟩ : ∃ k, n = k + 1 := ⟨n - 1, by omega⟩
    rw [F_X7_stays_23]
    split
    · rfl
    · rw [if_neg (by decide)]
  intro r
  induction r with
  | zero =>
    intro j ice cut n hj hn hi hc h0
    obtain ⟨n, rfl⟩ : ∃ k, n = k + 1 := ⟨n - 1, by omega⟩
    have : j = q := by omega
    subst this
    rw [F_X7_stays_23, h10, if_pos (nle.mp (fun z => by have := (nI_ltI (by omega) (by omega)).mp z; omega))]
    rfl
  | succ r ih =>
    intro j ice cut n hj hn hi hc h0
    obtain ⟨n, rfl⟩ : ∃ k, n = k + 1 := ⟨n - 1, by omega⟩
    have hjq : j < q := by omega
    have hd9 := dI_le hP hjq
    have hk3 : dK pg j ≤ 3 := dk_le _
    obtain ⟨b1, b2⟩ := hA.1 j hjq
    have hlo : lost kd (dI pg j) ≤ 9 := by unfold lost; split <;> omega
    rw [F_X7_stays_23, h10, if_neg (le_no (by omega) (by omega) hjq), if_pos rfl, inb_t (by omega) (by omega), if_pos rfl, cl_nI (by omega), lt_p, if_pos rfl, b1, b2, r_less (by omega) (by omega), lt_p, r_thawOf hk hd9, r_less (by omega) (by omega), lt_p, if_pos rfl]
    unfold F_X7_stays_99 F_X7_stays_134 F_X7_stays_136
    rw [nI_1, nI_add, li99, ol]
    simp (disch := omega) only [li0, li1, li3, nI_eq, nI_leI]
    by_cases e1 : dK pg j = 1
    · rw [if_pos e1, if_pos e1]
      by_cases g1 : ice - dI pg j = 0
      · rw [if_pos (by omega), if_pos (Or.inr (Or.inl g1)), hfalse n _ _ _ (by omega)]
      · rw [if_neg (by omega)]
        by_cases g2 : cut - lost kd (dI pg j) = 0
        · rw [if_pos (by omega), if_pos (Or.inr (Or.inr g2)), hfalse n _ _ _ (by omega)]
        · rw [if_neg (by omega)]
          by_cases g3 : kd = 3
          · rw [if_pos g3, if_pos (Or.inl g3), hfalse n _ _ _ (by omega)]
          · rw [if_neg g3, if_neg (by omega)]
            exact ih (j + 1) _ _ n (by omega) (by omega) (by omega) (by omega) (by omega)
    · rw [if_neg e1, if_neg e1]
      by_cases e0 : dK pg j = 0
      · rw [if_pos e0]
        have eI : dyI (dK pg j) (dI pg j) ice = min 99 (ice + dI pg j) := by unfold dyI; rw [if_pos e0]
        rw [eI]
        by_cases g : ice + dI pg j ≤ 99
        · rw [if_pos g, show min 99 (ice + dI pg j) = ice + dI pg j by omega]
          exact ih (j + 1) _ _ n (by omega) (by omega) (by omega) hc h0
        · rw [if_neg g, show min 99 (ice + dI pg j) = 99 by omega]
          exact ih (j + 1) _ _ n (by omega) (by omega) (by omega) hc h0
      · rw [if_neg e0]
        have eI : dyI (dK pg j) (dI pg j) ice = ice := by unfold dyI; rw [if_neg e0, if_neg e1]
        rw [eI]
        exact ih (j + 1) _ _ n (by omega) (by omega) hi hc h0
theorem r_stays {h : Hp} {q kd ice cut : Nat} (hk : kd ≤ 4) (hq : q ≤ 12) (h10 : h.1 55 10 = nI q) (hA : Ar pg h q false) (hP : Pv pg pn q false) (hi : ice ≤ 99) (hc : cut ≤ 18) (h0 : 0 < cut) : F_X7_stays (nI kd) (nI cut) (nI ice) h = some (decide (cut ≤ ice) && ol pg kd q 0 ice cut) := by
  unfold F_X7_stays F_X7_stays_18
  have hf := fuel_ge
  obtain ⟨n, hn⟩ : ∃ k, fuel = k + 1 := ⟨fuel - 1, by omega⟩
  by_cases g : ice < cut
  · rw [if_pos ((nI_ltI (by omega) (by omega)).mpr g), hn, F_X7_stays_23]
    have : ¬ cut ≤ ice := by omega
    simp only [this, decide_false, Bool.false_and]
    split
    · rfl
    · rw [if_neg (by decide)]
  · rw [if_neg (fun z => g ((nI_ltI (by omega) (by omega)).mp z))]
    have : cut ≤ ice := by omega
    simp only [this, decide_true, Bool.true_and]
    exact r_stays1 hk hq h10 hA hP q 0 ice cut fuel (by omega) (by omega) hi hc h0
def dpt (kd u : Nat) : Nat := if kd = 1 then 2 * u else u
def ndN (pg : Nat → Nat) (pn kd ice : Nat) : Nat → Nat → Int32
  | 0, _ => -1
  | r + 1, u => if dpt kd u ≤ ice ∧ ol pg kd (dq pg pn) 0 ice (dpt kd u) = true then nI u else ndN pg pn kd ice r (u + 1)
def ndA (m : Tw) (pg : Nat → Nat) (pn : Nat) (k x : Int32) : Int32 := if inb x (m 9 1) = true then (if wn k 0 4 = true then (if idB pg pn = true then ndN pg pn k.toNatClampNeg (m 0 x.toNatClampNeg) 9 1 else -103) else -102) else -101
theorem c_needed (hw : WfG m kp pg pn ld) (hr : RC σ m kp pg pn ld) (k x : Int32) : F_X6_needed k x σ = some (ndA m pg pn k x) := by
  have hp := hw.2.2.1
  have hs := hw.1.sq
  unfold F_X6_needed ndA
  rw [c_hasSquare hw.1 hr.1, c_isKind, c_isDays hw hr, Option.bind_some]
  by_cases h1 : inb x (m 9 1) = true
  · rw [if_pos h1, if_pos h1]
    by_cases h2 : wn k 0 4 = true
    · rw [if_pos h2, if_pos h2]
      by_cases h3 : idB pg pn = true
      · rw [if_pos h3, if_pos h3]
        obtain ⟨j, hj, rfl⟩ := inb_of (by omega) h1
        obtain ⟨kd, -, hk, rfl⟩ := wn_nI (a := 0) (b := 4) (by omega) (by omega) h2
        have hi := hw.1.ic hj
        have e3 : σ.1 33 j = nI (m 0 j) := hr.1.2.1 j hj
        have hP := idB_P h3
        rw [inb_t (by omega) (by omega), if_pos rfl, cl_nI (by omega), lt_p, e3, cl_nI (by omega)]
        have key : ∀ r u n, u + r = 10 → 0 < u → r < n → F_X6_needed_50 σ n (nI kd) (nI (m 0 j)) (nI u) = some (ndN pg pn kd (m 0 j) r u) := by
          intro r
          induction r with
          | zero =>
            intro u n hu hu0 hn
            obtain ⟨n, rfl⟩ : ∃ k, n = k + 1 := ⟨n - 1, by omega⟩
            have : u = 10 := by omega
            subst this
            rw [F_X6_needed_50, if_pos (by decide +kernel)]
            rfl
          | succ r ih =>
            intro u n hu hu0 hn
            obtain ⟨n, rfl⟩ : ∃ k, n = k + 1 := ⟨n - 1, by omega⟩
            have hd18 : dpt kd u ≤ 18 := by unfold dpt; split <;> omega
            have hd0 : 0 < dpt kd u := by unfold dpt; split <;> omega
            rw [F_X6_needed_50, li9, if_neg (fun z => by have := (nI_ltI (by omega) (by omega)).mp z; omega), lt_p, c_depthOf, dep_nI hk]
            rw [show (if kd = 1 then 2 * u else u) = dpt kd u from rfl]
            unfold F_X6_needed_88 F_X2_outlasts
            rw [show F_X2_outlasts_9 σ fuel (nI kd) (nI (m 0 j)) (nI (dpt kd u)) 0 = some (ol pg kd (dq pg pn) 0 (m 0 j) (dpt kd u)) from c_outlasts hp hr.2.2.2.2.1 hr.2.2.2.2.2.1 hw.2.2.2.1 hk hP idB_b (dq pg pn) 0 (m 0 j) (dpt kd u) fuel (by omega) (by have := fuel_ge; have := hP.1; omega) hi hd18 hd0, Option.bind_some, nI_1, ih (u + 1) n (by omega) (by omega) (by omega), ndN]
            by_cases g1 : m 0 j < dpt kd u
            · rw [if_pos ((nI_ltI (by omega) (by omega)).mpr g1), if_neg (fun z => by have := z.1; omega)]
            · rw [if_neg (fun z => g1 ((nI_ltI (by omega) (by omega)).mp z))]
              by_cases g2 : ol pg kd (dq pg pn) 0 (m 0 j) (dpt kd u) = true
              · rw [if_pos g2, if_pos ⟨by omega, g2⟩]
              · rw [if_neg g2, if_neg (fun z => g2 z.2)]
        exact key 9 1 fuel (by omega) (by omega) (by have := fuel_ge; omega)
      · rw [if_neg h3, if_neg h3]
    · rw [if_neg h2, if_neg h2]
  · rw [if_neg h1, if_neg h1]
theorem r_needed (hw : WfG m kp pg pn ld) (hr : RM σ m kp pg pn ld lk) (k x : Int32) : ∃ τ, F_X7_needed k x σ = some (ndA m pg pn k x, τ) ∧ RM τ m kp pg pn ld lk ∧ FrM σ τ := by
  have hp := hw.2.2.1
  have hs := hw.1.sq
  unfold F_X7_needed ndA
  obtain ⟨υ, u1, u2, u3⟩ := r_areDays hw hr
  rw [r_isSquare hw.1 hr.1, lj0, lj4, r_in, u1, Option.bind_some]
  dsimp only
  by_cases h1 : inb x (m 9 1) = true
  · rw [if_pos h1, if_pos h1]
    by_cases h2 : wn k 0 4 = true
    · rw [if_pos h2, if_pos h2]
      by_cases h3 : idB pg pn = true
      · rw [if_pos h3, if_pos h3]
        obtain ⟨j, hj, rfl⟩ := inb_of (by omega) h1
        obtain ⟨kd, -, hk, rfl⟩ := wn_nI (a := 0) (b := 4) (by omega) (by omega) h2
        have hi := hw.1.ic hj
        have hru := u2.RM hr
        have e3 : υ.1 56 j = nI (m 0 j) := hru.1.2.2.2.2.1 j hj
        have hP := idB_P h3
        obtain ⟨b1, b2⟩ := u3 h3
        rw [cl_nI (by omega), cl_nI (by omega)]
        have key : ∀ r u n, u + r = 10 → 0 < u → r < n → F_X7_needed_38 n (nI kd) (nI j) (nI u) υ = some (ndN pg pn kd (m 0 j) r u, υ) := by
          intro r
          induction r with
          | zero =>
            intro u n hu hu0 hn
            obtain ⟨n, rfl⟩ : ∃ k, n = k + 1 := ⟨n - 1, by omega⟩
            have : u = 10 := by omega
            subst this
            rw [F_X7_needed_38, if_pos (by decide +kernel)]
            rfl
          | succ r ih =>
            intro u n hu hu0 hn
            obtain ⟨n, rfl⟩ : ∃ k, n = k + 1 := ⟨n - 1, by omega⟩
            have hd18 : dpt kd u ≤ 18 := by unfold dpt; split <;> omega
            have hd0 : 0 < dpt kd u := by unfold dpt; split <;> omega
            have h58 : F_X7_needed_58 (F_X7_needed_38 n) (nI kd) (nI j) (nI u) (nI (dpt kd u)) (nI kd) υ = some (ndN pg pn kd (m 0 j) (r + 1) u, υ) := by
              unfold F_X7_needed_58
              rw [inb_t (by omega) (by omega), if_pos rfl, cl_nI (by omega), e3, r_stays hk hP.1 b1 b2 hP hi hd18 hd0, Option.bind_some, nI_1, ih (u + 1) n (by omega) (by omega) (by omega), ndN]
              by_cases g : dpt kd u ≤ m 0 j ∧ ol pg kd (dq pg pn) 0 (m 0 j) (dpt kd u) = true
              · rw [if_pos g, if_pos (by rw [g.2, decide_eq_true g.1]; rfl)]
              · rw [if_neg g, if_neg (fun z => g (by rw [Bool.and_eq_true, decide_eq_true_eq] at z; exact z))]
            rw [F_X7_needed_38, li10, if_neg (le_no (by omega) (by omega) (by omega)), ← h58, li1, li2, pk_mul]
            simp (disch := omega) only [nI_eq]
            unfold dpt
            by_cases g : kd = 1
            · rw [if_pos g, if_pos g]
            · rw [if_neg g, if_neg g]
        rw [show F_X7_needed_38 fuel (nI kd) (nI j) 1 υ = _ from key 9 1 fuel (by omega) (by omega) (by have := fuel_ge; omega)]
        exact ⟨υ, rfl, hru, u2.M⟩
      · rw [if_neg h3, if_neg h3]
        exact ⟨υ, rfl, u2.RM hr, u2.M⟩
    · rw [if_neg h2, if_neg h2]
      exact ⟨σ, rfl, hr, FrM.rf⟩
  · rw [if_neg h1, if_neg h1]
    exact ⟨σ, rfl, hr, FrM.rf⟩
/-- the day from which it bears -/
def beN (pg : Nat → Nat) : Nat → Nat → Nat → Int32
  | 0, j, ice => if 4 ≤ ice then nI j else -1
  | r + 1, j, ice => if 4 ≤ ice then nI j else beN pg r (j + 1) (dyI (dK pg j) (dI pg j) ice)
def beA (m : Tw) (pg : Nat → Nat) (pn : Nat) (x : Int32) : Int32 := if inb x (m 9 1) = true then (if idB pg pn = true then beN pg (dq pg pn) 0 (m 0 x.toNatClampNeg) else -103) else -101
theorem beN_4 {pg : Nat → Nat} {r j ice : Nat} (h : 4 ≤ ice) : beN pg r j ice = nI j := by
  cases r with
  | zero => rw [beN, if_pos h]
  | succ r => rw [beN, if_pos h]
theorem c_bears (hw : WfG m kp pg pn ld) (hr : RC σ m kp pg pn ld) (x : Int32) : F_X6_bears x σ = some (beA m pg pn x) := by
  have hp := hw.2.2.1
  have hs := hw.1.sq
  unfold F_X6_bears beA
  rw [c_hasSquare hw.1 hr.1, c_isDays hw hr, Option.bind_some]
  by_cases h1 : inb x (m 9 1) = true
  · rw [if_pos h1, if_pos h1]
    by_cases h3 : idB pg pn = true
    · rw [if_pos h3, if_pos h3]
      obtain ⟨j, hj, rfl⟩ := inb_of (by omega) h1
      have hi := hw.1.ic hj
      have e3 : σ.1 33 j = nI (m 0 j) := hr.1.2.1 j hj
      have hP := idB_P h3
      have h39 : σ.1 39 1 = nI pn := hr.2.2.2.2.1
      have h40 := hr.2.2.2.2.2.1
      rw [inb_t (by omega) (by omega), if_pos rfl, cl_nI (by omega), e3]
      have key : ∀ r j ice n, j + r = dq pg pn → 2 * r < n → ice ≤ 99 → F_X2_daysUntilBearing_7 σ n (nI ice) (nI j) (nI (ps pg j)) = some (beN pg r j ice) := by
        intro r
        induction r with
        | zero =>
          intro j ice n hj hn hi
          obtain ⟨n, rfl⟩ : ∃ k, n = k + 1 := ⟨n - 1, by omega⟩
          have : j = dq pg pn := by omega
          subst this
          rw [F_X2_daysUntilBearing_7, h39, hP.2.1 rfl, if_pos (nle.mp (fun z => by have := (nI_ltI (by omega) (by omega)).mp z; omega))]
          unfold F_X2_daysUntilBearing_56
          rw [li4, beN]
          by_cases g : 4 ≤ ice
          · rw [if_neg (fun z => by have := (nI_ltI (by omega) (by omega)).mp z; omega), if_pos g]
          · rw [if_pos ((nI_ltI (by omega) (by omega)).mpr (by omega)), if_neg g]
        | succ r ih =>
          intro j ice n hj hn hi
          obtain ⟨n, rfl⟩ : ∃ k, n = k + 1 := ⟨n - 1, by omega⟩
          have hjq : j < dq pg pn := by omega
          have hl := ps_lt hP hjq
          have hd9 := dI_le hP hjq
          have hk3 : dK pg j ≤ 3 := dk_le _
          have nxt : ∀ ice', ice' ≤ 99 → F_X2_daysUntilBearing_7 σ n (nI ice') (nI (j + 1)) (nI (ps pg j + 1)) = some (beN pg r (j + 1) ice') := by
            intro ice' hi'
            obtain ⟨n, rfl⟩ : ∃ k, n = k + 1 := ⟨n - 1, by omega⟩
            rcases ln_12 (pg (ps pg j)) with e | e
            · have := ih (j + 1) ice' (n + 1) (by omega) (by omega) hi'
              rw [show ps pg (j + 1) = ps pg j + 1 by show ps pg j + ln (pg (ps pg j)) = _; rw [e]] at this
              exact this
            · rw [F_X2_daysUntilBearing_7, h39, if_neg (le_no (by omega) (by omega) (ps2_lt hP hjq e)), li4]
              by_cases g : 4 ≤ ice'
              · rw [if_pos ((nI_leI (by omega) (by omega)).mpr g), beN_4 g]
                unfold F_X2_daysUntilBearing_56
                rw [li4, if_neg (fun z => by have := (nI_ltI (by omega) (by omega)).mp z; omega)]
              · rw [if_neg (le_no (by omega) (by omega) (by omega)), c_begF hp h40 hw.2.2.2.1 hP hjq e, Option.bind_some, if_neg (by decide)]
                unfold F_X2_daysUntilBearing_50
                have := ih (j + 1) ice' n (by omega) (by omega) hi'
                rw [show ps pg (j + 1) = ps pg j + 1 + 1 by show ps pg j + ln (pg (ps pg j)) = _; rw [e]] at this
                rw [show nI (ps pg j + 1) + 1 = nI (ps pg j + 1 + 1) from nI_1 _]
                exact this
          rw [F_X2_daysUntilBearing_7, h39, if_neg (le_no (by omega) (by omega) hl), li4]
          by_cases g : 4 ≤ ice
          · rw [if_pos ((nI_leI (by omega) (by omega)).mpr g), beN_4 g]
            unfold F_X2_daysUntilBearing_56
            rw [li4, if_neg (fun z => by have := (nI_ltI (by omega) (by omega)).mp z; omega)]
          · rw [if_neg (le_no (by omega) (by omega) (by omega)), c_begT hp h40 hw.2.2.2.1 hP idB_b hjq, Option.bind_some, if_pos rfl, c_dayAt hp h40 hw.2.2.2.1 hP hjq, Option.bind_some, c_inchesAt hp h39 h40 hw.2.2.2.1 hP hjq, Option.bind_some, c_iceBehind hk3 hd9 hi, lt_p]
            unfold F_X2_daysUntilBearing_50
            rw [show nI j + 1 = nI (j + 1) from nI_1 _, show nI (ps pg j) + 1 = nI (ps pg j + 1) from nI_1 _, beN, if_neg g]
            exact nxt _ (dyI_le hi)
      unfold F_X2_daysUntilBearing
      rw [show F_X2_daysUntilBearing_7 σ fuel (nI (m 0 j)) 0 0 = _ from key (dq pg pn) 0 (m 0 j) fuel (by omega) (by have := fuel_ge; have := hP.1; omega) hi, Option.bind_some]
    · rw [if_neg h3, if_neg h3]
  · rw [if_neg h1, if_neg h1]
theorem r_bears (hw : WfG m kp pg pn ld) (hr : RM σ m kp pg pn ld lk) (x : Int32) : ∃ τ, F_X7_bears x σ = some (beA m pg pn x, τ) ∧ RM τ m kp pg pn ld lk ∧ FrM σ τ := by
  have hp := hw.2.2.1
  have hs := hw.1.sq
  unfold F_X7_bears beA
  obtain ⟨υ, u1, u2, u3⟩ := r_areDays hw hr
  rw [r_isSquare hw.1 hr.1, u1, Option.bind_some]
  dsimp only
  by_cases h1 : inb x (m 9 1) = true
  · rw [if_pos h1, if_pos h1]
    by_cases h3 : idB pg pn = true
    · rw [if_pos h3, if_pos h3]
      obtain ⟨j, hj, rfl⟩ := inb_of (by omega) h1
      have hi := hw.1.ic hj
      have hru := u2.RM hr
      have e3 : υ.1 56 j = nI (m 0 j) := hru.1.2.2.2.2.1 j hj
      have hP := idB_P h3
      have hq := hP.1
      obtain ⟨b1, b2⟩ := u3 h3
      rw [inb_t (by omega) (by omega), if_pos rfl, cl_nI (by omega), e3, lt_p]
      have key : ∀ r j ice n, j + r = dq pg pn → r < n → ice ≤ 99 → F_X7_bears_30 n (nI ice) (nI j) υ = some (beN pg r j ice, υ) := by
        intro r
        induction r with
        | zero =>
          intro j ice n hj hn hi
          obtain ⟨n, rfl⟩ : ∃ k, n = k + 1 := ⟨n - 1, by omega⟩
          have : j = dq pg pn := by omega
          subst this
          rw [F_X7_bears_30, b1, if_pos (show nI (dq pg pn) ≤ nI (dq pg pn) from nle.mp (fun z => by have := (nI_ltI (by omega) (by omega)).mp z; omega))]
          unfold F_X7_bears_94
          rw [li4, beN]
          by_cases g : 4 ≤ ice
          · rw [if_pos ((nI_leI (by omega) (by omega)).mpr g), if_pos ((nI_leI (by omega) (by omega)).mpr g), if_pos g]
          · rw [if_neg (le_no (by omega) (by omega) (by omega)), if_neg (le_no (by omega) (by omega) (by omega)), if_neg g]
        | succ r ih =>
          intro j ice n hj hn hi
          obtain ⟨n, rfl⟩ : ∃ k, n = k + 1 := ⟨n - 1, by omega⟩
          have hjq : j < dq pg pn := by omega
          have hd9 := dI_le hP hjq
          have hk3 : dK pg j ≤ 3 := dk_le _
          obtain ⟨c1, c2⟩ := b2.1 j hjq
          rw [F_X7_bears_30, b1, if_neg (le_no (by omega) (by omega) hjq), inb_t (by omega) (by omega), cl_nI (by omega), c1, c2, nI_add, r_less (by omega) (by omega)]
          unfold F_X7_bears_94 F_X7_bears_87
          rw [li4, beN, nI_1]
          by_cases g : 4 ≤ ice
          · rw [if_pos ((nI_leI (by omega) (by omega)).mpr g), if_pos ((nI_leI (by omega) (by omega)).mpr g), if_pos g]
          · rw [if_neg (le_no (by omega) (by omega) (by omega)), if_neg g]
            simp (disch := omega) only [if_true, li0, li1, nI_eq]
            unfold dyI
            by_cases e0 : dK pg j = 0
            · rw [if_pos e0, if_pos e0, show min 99 (ice + dI pg j) = ice + dI pg j by omega]
              exact ih (j + 1) _ n (by omega) (by omega) (by omega)
            · rw [if_neg e0, if_neg e0]
              by_cases e1 : dK pg j = 1
              · rw [if_pos e1, if_pos e1]
                exact ih (j + 1) _ n (by omega) (by omega) (by omega)
              · rw [if_neg e1, if_neg e1]
                exact ih (j + 1) _ n (by omega) (by omega) hi
      rw [show F_X7_bears_30 fuel (nI (m 0 j)) 0 υ = _ from key (dq pg pn) 0 (m 0 j) fuel (by omega) (by have := fuel_ge; omega) hi]
      exact ⟨υ, rfl, hru, u2.M⟩
    · rw [if_neg h3, if_neg h3]
      exact ⟨υ, rfl, u2.RM hr, u2.M⟩
  · rw [if_neg h1, if_neg h1]
    exact ⟨σ, rfl, hr, FrM.rf⟩
/-- count -/
def coA (m : Tw) (pn ld : Nat) (w : Int32) : Int32 := if w = 0 then nI (m 9 1) else if w = 1 then nI (m 9 4) else if w = 2 then stI m else if w = 3 then nI (m 9 3) else if w = 4 then nI pn else if w = 5 then nI ld else -102
theorem c_count (hw : WfG m kp pg pn ld) (hr : RC σ m kp pg pn ld) (w : Int32) : F_X6_count w σ = some (coA m pn ld w) := by
  have e1 : σ.1 30 1 = nI (m 9 1) := hr.1.1 1 (by omega)
  have e4 : σ.1 30 4 = nI (m 9 4) := hr.1.1 4 (by omega)
  have e3 : σ.1 30 3 = nI (m 9 3) := hr.1.1 3 (by omega)
  unfold F_X6_count coA
  rw [c_standing hw.1 hr.1, Option.bind_some, e1, e4, e3, hr.2.2.2.2.1, hr.2.2.2.1]
  repeat' split
  all_goals rfl
theorem r_countOf (hw : WfG m kp pg pn ld) (hr : RM σ m kp pg pn ld lk) (w : Int32) : F_X7_countOf w σ = some (coA m pn ld w) := by
  unfold F_X7_countOf coA
  rw [r_thereMany hw.1 hr.1, Option.bind_some, r_squares hr.1, hr.1.2.2.2.1, hr.1.2.2.1, hr.2.2.2.2.1, hr.2.2.2.2.2.2]
  repeat' split
  all_goals rfl
theorem r_count (hw : WfG m kp pg pn ld) (hr : RM σ m kp pg pn ld lk) (w : Int32) : F_X7_count w σ = some (coA m pn ld w) := by
  unfold F_X7_count
  rw [r_countOf hw hr]; rfl
end NEED
