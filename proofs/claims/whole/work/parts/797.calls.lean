/-! each call of the law, on both sides -/
def Inv (h : Hp) (k : Nat) : Prop := ∃ m kp pg pn ld lk, WfG m kp pg pn ld ∧ RC h m kp pg pn ld ∧ RM h m kp pg pn ld lk ∧ lk ≤ k
section CALLS
variable {h : Hp} {k : Nat} (K : Hp → Option Unit)
theorem Inv.s (hI : Inv h k) : Inv h (k + 1) := by
  obtain ⟨m, kp, pg, pn, ld, lk, w, c, r, hl⟩ := hI
  exact ⟨m, kp, pg, pn, ld, lk, w, c, r, by omega⟩
theorem go_ice (hI : Inv h k) (hk : k < 10000) (hK : ∀ υ, Inv υ (k + 1) → K υ = some ()) (x v : Int32) : ((F_X6_ice x v h).bind fun q1 => (F_X7_ice x v q1.2).bind fun q2 => if q1.1 = q2.1 then K q2.2 else none) = some () := by
  obtain ⟨m, kp, pg, pn, ld, lk, w, c, r, hl⟩ := hI
  obtain ⟨τ, t1, t2, t3⟩ := c_ice w c x v 
  obtain ⟨υ, u1, u2, u3⟩ := r_ice w (r.congr t3) x v 
  rw [t1, Option.bind_some, u1, Option.bind_some, if_pos rfl]
  exact hK υ ⟨_, _, _, _, _, lk, w_ice w x v, t2.congr (w_ice w x v) u3, u2, by omega⟩
theorem go_saw (hI : Inv h k) (hk : k < 10000) (hK : ∀ υ, Inv υ (k + 1) → K υ = some ()) (x : Int32) : ((F_X6_saw x h).bind fun q1 => (F_X7_saw x q1.2).bind fun q2 => if q1.1 = q2.1 then K q2.2 else none) = some () := by
  obtain ⟨m, kp, pg, pn, ld, lk, w, c, r, hl⟩ := hI
  obtain ⟨τ, t1, t2, t3⟩ := c_saw w c x 
  obtain ⟨υ, u1, u2, u3⟩ := r_saw w (r.congr t3) x 
  rw [t1, Option.bind_some, u1, Option.bind_some, if_pos rfl]
  exact hK υ ⟨_, _, _, _, _, lk, w_saw w x, t2.congr (w_saw w x) u3, u2, by omega⟩
theorem go_settled (hI : Inv h k) (hk : k < 10000) (hK : ∀ υ, Inv υ (k + 1) → K υ = some ()) (x : Int32) : ((F_X6_settled x h).bind fun q1 => (F_X7_settled x q1.2).bind fun q2 => if q1.1 = q2.1 then K q2.2 else none) = some () := by
  obtain ⟨m, kp, pg, pn, ld, lk, w, c, r, hl⟩ := hI
  obtain ⟨τ, t1, t2, t3⟩ := c_settled w c x 
  obtain ⟨υ, u1, u2, u3⟩ := r_settled w (r.congr t3) x 
  rw [t1, Option.bind_some, u1, Option.bind_some, if_pos rfl]
  exact hK υ ⟨_, _, _, _, _, lk, w, t2.congr (w) u3, u2, by omega⟩
theorem go_skate (hI : Inv h k) (hk : k < 10000) (hK : ∀ υ, Inv υ (k + 1) → K υ = some ()) (x y z : Int32) : ((F_X6_skate x y z h).bind fun q1 => (F_X7_skate x y z q1.2).bind fun q2 => if q1.1 = q2.1 then K q2.2 else none) = some () := by
  obtain ⟨m, kp, pg, pn, ld, lk, w, c, r, hl⟩ := hI
  obtain ⟨τ, t1, t2, t3⟩ := c_skate w c x y z 
  obtain ⟨υ, u1, u2, u3⟩ := r_skate w (r.congr t3) x y z 
  rw [t1, Option.bind_some, u1, Option.bind_some, if_pos rfl]
  exact hK υ ⟨_, _, _, _, _, lk, w, t2.congr (w) u3, u2, by omega⟩
theorem go_winter (hI : Inv h k) (hk : k < 10000) (hK : ∀ υ, Inv υ (k + 1) → K υ = some ()) (x y z : Int32) : ((F_X6_winter x y z h).bind fun q1 => (F_X7_winter x y z q1.2).bind fun q2 => if q1.1 = q2.1 then K q2.2 else none) = some () := by
  obtain ⟨m, kp, pg, pn, ld, lk, w, c, r, hl⟩ := hI
  obtain ⟨τ, t1, t2, t3⟩ := c_winter w c x y z 
  obtain ⟨υ, u1, u2, u3⟩ := r_winter w (r.congr t3) x y z 
  rw [t1, Option.bind_some, u1, Option.bind_some, if_pos rfl]
  exact hK υ ⟨_, _, _, _, _, lk, w, t2.congr (w) u3, u2, by omega⟩
theorem go_image (hI : Inv h k) (hk : k < 10000) (hK : ∀ υ, Inv υ (k + 1) → K υ = some ()) : ((F_X6_image h).bind fun q1 => (F_X7_image q1.2).bind fun q2 => if q1.1 = q2.1 then K q2.2 else none) = some () := by
  obtain ⟨m, kp, pg, pn, ld, lk, w, c, r, hl⟩ := hI
  obtain ⟨τ, t1, t2, t3⟩ := c_image w c 
  obtain ⟨υ, u1, u2, u3⟩ := r_image w (r.congr t3) 
  rw [t1, Option.bind_some, u1, Option.bind_some, if_pos rfl]
  exact hK υ ⟨_, _, _, _, _, lk, w_image w, t2.congr (w_image w) u3, u2, by omega⟩
theorem go_restore (hI : Inv h k) (hk : k < 10000) (hK : ∀ υ, Inv υ (k + 1) → K υ = some ()) : ((F_X6_restore h).bind fun q1 => (F_X7_restore q1.2).bind fun q2 => if q1.1 = q2.1 then K q2.2 else none) = some () := by
  obtain ⟨m, kp, pg, pn, ld, lk, w, c, r, hl⟩ := hI
  obtain ⟨τ, t1, t2, t3⟩ := c_restore w c 
  obtain ⟨υ, u1, u2, u3⟩ := r_restore w (by omega) (r.congr t3) 
  rw [t1, Option.bind_some, u1, Option.bind_some, if_pos rfl]
  exact hK υ ⟨_, _, _, _, _, lk, w_restore w, t2.congr (w_restore w) u3, u2, by omega⟩
theorem go_digest (hI : Inv h k) (hk : k < 10000) (hK : ∀ υ, Inv υ (k + 1) → K υ = some ()) : ((F_X6_digest h).bind fun q1 => (F_X7_digest q1.2).bind fun q2 => if q1.1 = q2.1 then K q2.2 else none) = some () := by
  obtain ⟨m, kp, pg, pn, ld, lk, w, c, r, hl⟩ := hI
  obtain ⟨τ, t1, t2, t3⟩ := c_digest w c 
  obtain ⟨υ, u1, u2, u3⟩ := r_digest w (r.congr t3) 
  rw [t1, Option.bind_some, u1, Option.bind_some, if_pos rfl]
  exact hK υ ⟨_, _, _, _, _, lk, w, t2.congr (w) u3, u2, by omega⟩
theorem go_lake (hI : Inv h k) (hk : k < 10000) (hK : ∀ υ, Inv υ (k + 1) → K υ = some ()) (x y : Int32) : ((F_X6_lake x y h).bind fun q1 => (F_X7_lake x y q1.2).bind fun q2 => if q1.1 = q2.1 then K q2.2 else none) = some () := by
  obtain ⟨m, kp, pg, pn, ld, lk, w, c, r, hl⟩ := hI
  obtain ⟨τ, t1, t2, t3, t4⟩ := c_lake c x y 
  obtain ⟨υ, u1, u2, u3, u4⟩ := r_lake (r.congr t4) (by omega) x y 
  rw [t1, Option.bind_some, u1, Option.bind_some, if_pos rfl]
  by_cases g : wn x 2 4 = true ∧ wn y 2 4 = true
  · exact hK υ ⟨_, _, _, _, _, _, w_lake w g, (t2 g).congr (w_lake w g) u4, u2 g, by omega⟩
  · exact hK υ ⟨m, kp, pg, pn, ld, lk, w, by rw [u3 g, t3 g]; exact c, by rw [u3 g, t3 g]; exact r, by omega⟩
theorem go_fish (hI : Inv h k) (hk : k < 10000) (hK : ∀ υ, Inv υ (k + 1) → K υ = some ()) (x : Int32) : ((F_X6_fish x h).bind fun q1 => (F_X7_fish x q1.2).bind fun q2 => if q1.1 = q2.1 then K q2.2 else none) = some () := by
  obtain ⟨m, kp, pg, pn, ld, lk, w, c, r, hl⟩ := hI
  obtain ⟨τ, t1, t2, t3, t4⟩ := c_fish w c x 
  obtain ⟨υ, u1, u2, u3, u4⟩ := r_fish w (r.congr t4) x 
  rw [t1, Option.bind_some, u1, Option.bind_some, if_pos rfl]
  by_cases g : fiOk m x
  · exact hK υ ⟨_, _, _, _, _, _, w_fish w _, (t2 g).congr (w_fish w _) u4, u2 g, by omega⟩
  · exact hK υ ⟨m, kp, pg, pn, ld, lk, w, by rw [u3 g, t3 g]; exact c, by rw [u3 g, t3 g]; exact r, by omega⟩
theorem go_write (hI : Inv h k) (hk : k < 10000) (hK : ∀ υ, Inv υ (k + 1) → K υ = some ()) (x y z u v o : Int32) : ((F_X6_write x y z u v o h).bind fun q1 => (F_X7_write x y z u v o q1.2).bind fun q2 => if q1.1 = q2.1 then K q2.2 else none) = some () := by
  obtain ⟨m, kp, pg, pn, ld, lk, w, c, r, hl⟩ := hI
  obtain ⟨τ, t1, t2, t3, t4⟩ := c_write w c x y z u v o 
  obtain ⟨υ, u1, u2, u3, u4⟩ := r_write w (r.congr t4) x y z u v o 
  rw [t1, Option.bind_some, u1, Option.bind_some, if_pos rfl]
  by_cases g : wrOk m x y z u v o
  · exact hK υ ⟨_, _, _, _, _, _, w_write w g, (t2 g).congr (w_write w g) u4, u2 g, by omega⟩
  · exact hK υ ⟨m, kp, pg, pn, ld, lk, w, by rw [u3 g, t3 g]; exact c, by rw [u3 g, t3 g]; exact r, by omega⟩
theorem go_letters (hI : Inv h k) (hk : k < 10000) (hK : ∀ υ, Inv υ (k + 1) → K υ = some ()) (x : Int64) : ((F_X6_letters x h).bind fun q1 => (F_X7_letters x q1.2).bind fun q2 => if q1.1 = q2.1 then K q2.2 else none) = some () := by
  obtain ⟨m, kp, pg, pn, ld, lk, w, c, r, hl⟩ := hI
  obtain ⟨τ, t1, t2, t3, t4⟩ := c_letters w c x 
  obtain ⟨υ, u1, u2, u3, u4⟩ := r_letters w (r.congr t4) x 
  rw [t1, Option.bind_some, u1, Option.bind_some, if_pos rfl]
  by_cases g : leOk pn x
  · exact hK υ ⟨_, _, _, _, _, _, w_letters w g, (t2 g).congr (w_letters w g) u4, u2 g, by omega⟩
  · exact hK υ ⟨m, kp, pg, pn, ld, lk, w, by rw [u3 g, t3 g]; exact c, by rw [u3 g, t3 g]; exact r, by omega⟩
theorem go_sledges (hI : Inv h k) (hk : k < 10000) (hK : ∀ υ, Inv υ (k + 1) → K υ = some ()) (x y z : Int32) : ((F_X6_sledges x y z h).bind fun q1 => (F_X7_sledges x y z q1.2).bind fun q2 => if q1.1 = q2.1 then K q2.2 else none) = some () := by
  obtain ⟨m, kp, pg, pn, ld, lk, w, c, r, hl⟩ := hI
  obtain ⟨τ, t1, t2, t3, t4⟩ := c_sledges w c x y z 
  obtain ⟨υ, u1, u2, u3, u4⟩ := r_sledges w (r.congr t4) x y z 
  rw [t1, Option.bind_some, u1, Option.bind_some, if_pos rfl]
  by_cases g : slOk ld x y z
  · exact hK υ ⟨_, _, _, _, _, _, w_sledges w g, (t2 g).congr (w_sledges w g) u4, u2 g, by omega⟩
  · exact hK υ ⟨m, kp, pg, pn, ld, lk, w, by rw [u3 g, t3 g]; exact c, by rw [u3 g, t3 g]; exact r, by omega⟩
theorem go_days (hI : Inv h k) (hk : k < 10000) (hK : ∀ υ, Inv υ (k + 1) → K υ = some ()) : ((F_X6_days h).bind fun q1 => (F_X7_days q1.2).bind fun q2 => if q1.1 = q2.1 then K q2.2 else none) = some () := by
  obtain ⟨m, kp, pg, pn, ld, lk, w, c, r, hl⟩ := hI
  obtain ⟨τ, t1, t2, t3, t4⟩ := c_days w c
  obtain ⟨υ, u1, u2, u3, u4⟩ := r_days w (r.congr t4)
  rw [t1, Option.bind_some, u1, Option.bind_some, if_pos rfl]
  by_cases g : idB pg pn = true
  · exact hK υ ⟨_, _, _, _, _, lk, w_days w, (t2 g).congr (w_days w) u4, u2 g, by omega⟩
  · have g' : idB pg pn = false := by simpa using g
    exact hK υ ⟨m, kp, pg, pn, ld, lk, w, RC.congr w u4 (by rw [t3 g']; exact c), u3 g', by omega⟩
theorem go_blank (hI : Inv h k) (hk : k < 10000) (hK : ∀ υ, Inv υ (k + 1) → K υ = some ()) : (lt (F_X6_blank h) fun q1 => lt (F_X7_blank q1.2) fun q2 => if q1.1 = q2.1 then K q2.2 else none) = some () := by
  obtain ⟨m, kp, pg, pn, ld, lk, w, c, r, hl⟩ := hI
  obtain ⟨τ, t1, t2, t3⟩ := c_blank w c
  obtain ⟨υ, u1, u2, u3⟩ := r_blank (r.congr t3)
  have w2 : WfG m kp pg 0 ld := ⟨w.1, w.2.1, by omega, fun i hi => absurd hi (by omega), w.2.2.2.2⟩
  rw [lt_p, t1, lt_p, u1, if_pos rfl]
  exact hK υ ⟨_, _, _, _, _, lk, w2, t2.congr w2 u3, u2, by omega⟩
theorem go_square (hI : Inv h k) (hK : ∀ υ, Inv υ (k + 1) → K υ = some ()) (x y : Int32) : ((F_X6_square x y h).bind fun v1 => (F_X7_square x y h).bind fun v2 => if v1 = v2 then K h else none) = some () := by
  have hI1 := hI.s
  obtain ⟨m, kp, pg, pn, ld, lk, w, c, r, hl⟩ := hI
  rw [c_square w.1 c.1 x y , Option.bind_some, r_square w.1 r.1 x y , Option.bind_some, if_pos rfl]
  exact hK h hI1
theorem go_about (hI : Inv h k) (hK : ∀ υ, Inv υ (k + 1) → K υ = some ()) (x y : Int32) : ((F_X6_about x y h).bind fun v1 => (F_X7_about x y h).bind fun v2 => if v1 = v2 then K h else none) = some () := by
  have hI1 := hI.s
  obtain ⟨m, kp, pg, pn, ld, lk, w, c, r, hl⟩ := hI
  rw [c_about w.1 c.1 x y , Option.bind_some, r_about w.1 r.1 x y , Option.bind_some, if_pos rfl]
  exact hK h hI1
theorem go_as (hI : Inv h k) (hK : ∀ υ, Inv υ (k + 1) → K υ = some ()) (x y : Int32) : ((F_X6_as x y h).bind fun v1 => (F_X7_as x y h).bind fun v2 => if v1 = v2 then K h else none) = some () := by
  have hI1 := hI.s
  obtain ⟨m, kp, pg, pn, ld, lk, w, c, r, hl⟩ := hI
  rw [c_as w.1 c.1 x y , Option.bind_some, r_as w.1 r.1 x y , Option.bind_some, if_pos rfl]
  exact hK h hI1
theorem go_rest (hI : Inv h k) (hK : ∀ υ, Inv υ (k + 1) → K υ = some ()) (x : Int32) : ((F_X6_rest x h).bind fun v1 => (F_X7_rest x h).bind fun v2 => if v1 = v2 then K h else none) = some () := by
  have hI1 := hI.s
  obtain ⟨m, kp, pg, pn, ld, lk, w, c, r, hl⟩ := hI
  rw [c_rest w.1 c.1 x , Option.bind_some, r_rest w.1 r.1 x , Option.bind_some, if_pos rfl]
  exact hK h hI1
theorem go_odds (hI : Inv h k) (hK : ∀ υ, Inv υ (k + 1) → K υ = some ()) (x y z u v : Int32) : ((F_X6_odds x y z u v h).bind fun v1 => (F_X7_odds x y z u v h).bind fun v2 => if v1 = v2 then K h else none) = some () := by
  have hI1 := hI.s
  obtain ⟨m, kp, pg, pn, ld, lk, w, c, r, hl⟩ := hI
  rw [c_odds w.1 c.1 x y z u v , Option.bind_some, r_odds w.1 r.1 x y z u v , Option.bind_some, if_pos rfl]
  exact hK h hI1
theorem go_count (hI : Inv h k) (hK : ∀ υ, Inv υ (k + 1) → K υ = some ()) (x : Int32) : ((F_X6_count x h).bind fun v1 => (F_X7_count x h).bind fun v2 => if v1 = v2 then K h else none) = some () := by
  have hI1 := hI.s
  obtain ⟨m, kp, pg, pn, ld, lk, w, c, r, hl⟩ := hI
  rw [c_count w c x , Option.bind_some, r_count w r x , Option.bind_some, if_pos rfl]
  exact hK h hI1
theorem go_owes (hI : Inv h k) (x y : Int32) (b : Bool) : ∃ v, F_X6_owes x y b h = some v ∧ F_X7_owes x y b h = some v := by
  obtain ⟨m, kp, pg, pn, ld, lk, w, c, r, hl⟩ := hI
  exact ⟨_, c_owes w.1 c.1 x y b, r_owes w.1 r.1 x y b⟩
theorem go_fault (hI : Inv h k) (hK : ∀ υ, Inv υ (k + 1) → K υ = some ()) : ((F_X6_fault h).bind fun v1 => (F_X7_fault h).bind fun q2 => if v1 = q2.1 then K q2.2 else none) = some () := by
  obtain ⟨m, kp, pg, pn, ld, lk, w, c, r, hl⟩ := hI
  obtain ⟨υ, u1, u2, u3⟩ := r_fault w r 
  rw [c_fault w c , Option.bind_some, u1, Option.bind_some, if_pos rfl]
  exact hK υ ⟨m, kp, pg, pn, ld, lk, w, c.congr w u3, u2, by omega⟩
theorem go_needed (hI : Inv h k) (hK : ∀ υ, Inv υ (k + 1) → K υ = some ()) (x y : Int32) : ((F_X6_needed x y h).bind fun v1 => (F_X7_needed x y h).bind fun q2 => if v1 = q2.1 then K q2.2 else none) = some () := by
  obtain ⟨m, kp, pg, pn, ld, lk, w, c, r, hl⟩ := hI
  obtain ⟨υ, u1, u2, u3⟩ := r_needed w r x y 
  rw [c_needed w c x y , Option.bind_some, u1, Option.bind_some, if_pos rfl]
  exact hK υ ⟨m, kp, pg, pn, ld, lk, w, c.congr w u3, u2, by omega⟩
theorem go_bears (hI : Inv h k) (hK : ∀ υ, Inv υ (k + 1) → K υ = some ()) (x : Int32) : ((F_X6_bears x h).bind fun v1 => (F_X7_bears x h).bind fun q2 => if v1 = q2.1 then K q2.2 else none) = some () := by
  obtain ⟨m, kp, pg, pn, ld, lk, w, c, r, hl⟩ := hI
  obtain ⟨υ, u1, u2, u3⟩ := r_bears w r x 
  rw [c_bears w c x , Option.bind_some, u1, Option.bind_some, if_pos rfl]
  exact hK υ ⟨m, kp, pg, pn, ld, lk, w, c.congr w u3, u2, by omega⟩
theorem Inv_0 : Inv sg0 0 := by
  have w0 : WfG (lkN 3 3) none (fun _ => 0) 0 0 := by
    refine ⟨⟨⟨3, by omega, by omega, by decide, by decide, by decide⟩, by decide, by decide, fun c _ => by show (10 : Nat) ≤ 99; omega, fun d hd => absurd hd (by show ¬ d < 0; omega)⟩, fun k hk => (by cases hk), by omega, fun i hi => absurd hi (by omega), by omega⟩
  refine ⟨lkN 3 3, none, fun _ => 0, 0, 0, 0, w0, ⟨⟨fun k hk => ?_, fun c _ => ?_, fun d hd => absurd hd (by show ¬ d < 0; omega)⟩, by decide +kernel, fun k hk => (by cases hk), by decide +kernel, by decide +kernel, fun i hi => absurd hi (by omega), by decide +kernel, by decide +kernel⟩, ⟨⟨⟨3, by omega, by decide +kernel, by decide⟩, by decide +kernel, by decide +kernel, by decide +kernel, fun c _ => ?_, fun c _ => ?_, fun d hd => absurd hd (by show ¬ d < 0; omega)⟩, by decide +kernel, fun _ => Or.inl (by decide +kernel), fun k hk => (by cases hk), by decide +kernel, fun i hi => absurd hi (by omega), by decide +kernel⟩, by omega⟩
  · have : k = 0 ∨ k = 1 ∨ k = 2 ∨ k = 3 ∨ k = 4 := by omega
    rcases this with rfl | rfl | rfl | rfl | rfl <;> decide +kernel
  · show (10 : Int32) = nI 10
    decide +kernel
  · show (10 : Int32) = nI 10
    decide +kernel
  · show (0 : Int32) = nI 0
    decide +kernel
end CALLS
