noncomputable def F_L_law_943 (xs : Nat → Int32) (L : Nat) (k18 : Int32 → Hp → (Option Unit)) (w3 : Int32) (h : Hp) : Option Unit :=
  k18 (w3 + 7) h
noncomputable def F_L_law_633 (xs : Nat → Int32) (L : Nat) (k18 : Int32 → Hp → (Option Unit)) (w3 : Int32) (s0 : Bool) (s1 : Int32) (s2 : Int32) (s4 : Int32) (h : Hp) : Option Unit :=
  (F_X7_owes s2 s1 s0 h).bind fun v1 =>
  if s4 = v1 then
  F_L_law_943 xs L k18 w3 h
  else
  none
noncomputable def F_L_law_606 (xs : Nat → Int32) (L : Nat) (k18 : Int32 → Hp → (Option Unit)) (w3 : Int32) (s0 : Bool) (s1 : Int32) (s2 : Int32) (h : Hp) : Option Unit :=
  (F_X6_owes s2 s1 s0 h).bind fun v2 =>
  if inb (w3 + (1 : Int32)) L = true then
  if inb (w3 + (2 : Int32)) L = true then
  if inb (w3 + (3 : Int32)) L = true then
  if (xs (Int32.toNatClampNeg (w3 + (3 : Int32)))) = 0 then
  F_L_law_633 xs L k18 w3 false (xs (Int32.toNatClampNeg (w3 + (2 : Int32)))) (xs (Int32.toNatClampNeg (w3 + (1 : Int32)))) v2 h
  else
  F_L_law_633 xs L k18 w3 true (xs (Int32.toNatClampNeg (w3 + (2 : Int32)))) (xs (Int32.toNatClampNeg (w3 + (1 : Int32)))) v2 h
  else none
  else none
  else none
noncomputable def F_L_law_18 (xs : Nat → Int32) (L : Nat) : Nat → Int32 → Hp → Option Unit
  | 0, _, _ => none
  | n + 1, w3, h =>
    if ((Int32.ofNat L) - (7 : Int32)) < w3 then
    some ()
    else
    if inb w3 L = true then
    if ((xs (Int32.toNatClampNeg w3)) &&& (31 : Int32)) = 0 then
    if inb (w3 + (1 : Int32)) L = true then
    if inb (w3 + (2 : Int32)) L = true then
    (F_X6_lake (xs (Int32.toNatClampNeg (w3 + (1 : Int32)))) (xs (Int32.toNatClampNeg (w3 + (2 : Int32)))) h).bind fun q9 =>
    if inb (w3 + (1 : Int32)) L = true then
    if inb (w3 + (2 : Int32)) L = true then
    (F_X7_lake (xs (Int32.toNatClampNeg (w3 + (1 : Int32)))) (xs (Int32.toNatClampNeg (w3 + (2 : Int32)))) q9.2).bind fun q12 =>
    if q9.1 = q12.1 then
    F_L_law_943 xs L (F_L_law_18 xs L n) w3 q12.2
    else
    none
    else none
    else none
    else none
    else none
    else if ((xs (Int32.toNatClampNeg w3)) &&& (31 : Int32)) = 1 then
    if inb (w3 + (1 : Int32)) L = true then
    if inb (w3 + (2 : Int32)) L = true then
    (F_X6_ice (xs (Int32.toNatClampNeg (w3 + (1 : Int32)))) (xs (Int32.toNatClampNeg (w3 + (2 : Int32)))) h).bind fun q17 =>
    if inb (w3 + (1 : Int32)) L = true then
    if inb (w3 + (2 : Int32)) L = true then
    (F_X7_ice (xs (Int32.toNatClampNeg (w3 + (1 : Int32)))) (xs (Int32.toNatClampNeg (w3 + (2 : Int32)))) q17.2).bind fun q20 =>
    if q17.1 = q20.1 then
    F_L_law_943 xs L (F_L_law_18 xs L n) w3 q20.2
    else
    none
    else none
    else none
    else none
    else none
    else if ((xs (Int32.toNatClampNeg w3)) &&& (31 : Int32)) = 2 then
    if inb (w3 + (1 : Int32)) L = true then
    if inb (w3 + (2 : Int32)) L = true then
    (F_X6_square (xs (Int32.toNatClampNeg (w3 + (1 : Int32)))) (xs (Int32.toNatClampNeg (w3 + (2 : Int32)))) h).bind fun v25 =>
    if inb (w3 + (1 : Int32)) L = true then
    if inb (w3 + (2 : Int32)) L = true then
    (F_X7_square (xs (Int32.toNatClampNeg (w3 + (1 : Int32)))) (xs (Int32.toNatClampNeg (w3 + (2 : Int32)))) h).bind fun v28 =>
    if v25 = v28 then
    F_L_law_943 xs L (F_L_law_18 xs L n) w3 h
    else
    none
    else none
    else none
    else none
    else none
    else if ((xs (Int32.toNatClampNeg w3)) &&& (31 : Int32)) = 3 then
    if inb (w3 + (1 : Int32)) L = true then
    (F_X6_fish (xs (Int32.toNatClampNeg (w3 + (1 : Int32)))) h).bind fun q32 =>
    if inb (w3 + (1 : Int32)) L = true then
    (F_X7_fish (xs (Int32.toNatClampNeg (w3 + (1 : Int32)))) q32.2).bind fun q34 =>
    if q32.1 = q34.1 then
    F_L_law_943 xs L (F_L_law_18 xs L n) w3 q34.2
    else
    none
    else none
    else none
    else if ((xs (Int32.toNatClampNeg w3)) &&& (31 : Int32)) = 4 then
    if inb (w3 + (1 : Int32)) L = true then
    if inb (w3 + (2 : Int32)) L = true then
    if inb (w3 + (3 : Int32)) L = true then
    if inb (w3 + (4 : Int32)) L = true then
    if inb (w3 + (5 : Int32)) L = true then
    if inb (w3 + (6 : Int32)) L = true then
    (F_X6_write (xs (Int32.toNatClampNeg (w3 + (1 : Int32)))) (xs (Int32.toNatClampNeg (w3 + (2 : Int32)))) (xs (Int32.toNatClampNeg (w3 + (3 : Int32)))) (xs (Int32.toNatClampNeg (w3 + (4 : Int32)))) (xs (Int32.toNatClampNeg (w3 + (5 : Int32)))) (xs (Int32.toNatClampNeg (w3 + (6 : Int32)))) h).bind fun q43 =>
    if inb (w3 + (1 : Int32)) L = true then
    if inb (w3 + (2 : Int32)) L = true then
    if inb (w3 + (3 : Int32)) L = true then
    if inb (w3 + (4 : Int32)) L = true then
    if inb (w3 + (5 : Int32)) L = true then
    if inb (w3 + (6 : Int32)) L = true then
    (F_X7_write (xs (Int32.toNatClampNeg (w3 + (1 : Int32)))) (xs (Int32.toNatClampNeg (w3 + (2 : Int32)))) (xs (Int32.toNatClampNeg (w3 + (3 : Int32)))) (xs (Int32.toNatClampNeg (w3 + (4 : Int32)))) (xs (Int32.toNatClampNeg (w3 + (5 : Int32)))) (xs (Int32.toNatClampNeg (w3 + (6 : Int32)))) q43.2).bind fun q50 =>
    if q43.1 = q50.1 then
    F_L_law_943 xs L (F_L_law_18 xs L n) w3 q50.2
    else
    none
    else none
    else none
    else none
    else none
    else none
    else none
    else none
    else none
    else none
    else none
    else none
    else none
    else if ((xs (Int32.toNatClampNeg w3)) &&& (31 : Int32)) = 5 then
    if inb (w3 + (1 : Int32)) L = true then
    if inb (w3 + (2 : Int32)) L = true then
    (F_X6_about (xs (Int32.toNatClampNeg (w3 + (1 : Int32)))) (xs (Int32.toNatClampNeg (w3 + (2 : Int32)))) h).bind fun v55 =>
    if inb (w3 + (1 : Int32)) L = true then
    if inb (w3 + (2 : Int32)) L = true then
    (F_X7_about (xs (Int32.toNatClampNeg (w3 + (1 : Int32)))) (xs (Int32.toNatClampNeg (w3 + (2 : Int32)))) h).bind fun v58 =>
    if v55 = v58 then
    F_L_law_943 xs L (F_L_law_18 xs L n) w3 h
    else
    none
    else none
    else none
    else none
    else none
    else if ((xs (Int32.toNatClampNeg w3)) &&& (31 : Int32)) = 6 then
    if inb (w3 + (1 : Int32)) L = true then
    if inb (w3 + (2 : Int32)) L = true then
    (F_X6_as (xs (Int32.toNatClampNeg (w3 + (1 : Int32)))) (xs (Int32.toNatClampNeg (w3 + (2 : Int32)))) h).bind fun v63 =>
    if inb (w3 + (1 : Int32)) L = true then
    if inb (w3 + (2 : Int32)) L = true then
    (F_X7_as (xs (Int32.toNatClampNeg (w3 + (1 : Int32)))) (xs (Int32.toNatClampNeg (w3 + (2 : Int32)))) h).bind fun v66 =>
    if v63 = v66 then
    F_L_law_943 xs L (F_L_law_18 xs L n) w3 h
    else
    none
    else none
    else none
    else none
    else none
    else if ((xs (Int32.toNatClampNeg w3)) &&& (31 : Int32)) = 7 then
    if inb (w3 + (1 : Int32)) L = true then
    (F_X6_saw (xs (Int32.toNatClampNeg (w3 + (1 : Int32)))) h).bind fun q70 =>
    if inb (w3 + (1 : Int32)) L = true then
    (F_X7_saw (xs (Int32.toNatClampNeg (w3 + (1 : Int32)))) q70.2).bind fun q72 =>
    if q70.1 = q72.1 then
    F_L_law_943 xs L (F_L_law_18 xs L n) w3 q72.2
    else
    none
    else none
    else none
    else if ((xs (Int32.toNatClampNeg w3)) &&& (31 : Int32)) = 8 then
    if inb (w3 + (1 : Int32)) L = true then
    if inb (w3 + (2 : Int32)) L = true then
    (F_X6_letters ((jlshl (Int32.toInt64 (xs (Int32.toNatClampNeg (w3 + (1 : Int32))))) (32 : Int32)) ||| ((Int32.toInt64 (xs (Int32.toNatClampNeg (w3 + (2 : Int32))))) &&& (4294967295 : Int64))) h).bind fun q77 =>
    if inb (w3 + (1 : Int32)) L = true then
    if inb (w3 + (2 : Int32)) L = true then
    (F_X7_letters ((jlshl (Int32.toInt64 (xs (Int32.toNatClampNeg (w3 + (1 : Int32))))) (32 : Int32)) ||| ((Int32.toInt64 (xs (Int32.toNatClampNeg (w3 + (2 : Int32))))) &&& (4294967295 : Int64))) q77.2).bind fun q80 =>
    if q77.1 = q80.1 then
    F_L_law_943 xs L (F_L_law_18 xs L n) w3 q80.2
    else
    none
    else none
    else none
    else none
    else none
    else if ((xs (Int32.toNatClampNeg w3)) &&& (31 : Int32)) = 9 then
    lt (F_X6_blank h) fun q83 =>
    lt (F_X7_blank q83.2) fun q84 =>
    if q83.1 = q84.1 then
    F_L_law_943 xs L (F_L_law_18 xs L n) w3 q84.2
    else
    none
    else if ((xs (Int32.toNatClampNeg w3)) &&& (31 : Int32)) = 10 then
    (F_X6_fault h).bind fun v87 =>
    (F_X7_fault h).bind fun q88 =>
    if v87 = q88.1 then
    F_L_law_943 xs L (F_L_law_18 xs L n) w3 q88.2
    else
    none
    else if ((xs (Int32.toNatClampNeg w3)) &&& (31 : Int32)) = 11 then
    (F_X6_days h).bind fun q91 =>
    (F_X7_days q91.2).bind fun q92 =>
    if q91.1 = q92.1 then
    F_L_law_943 xs L (F_L_law_18 xs L n) w3 q92.2
    else
    none
    else if ((xs (Int32.toNatClampNeg w3)) &&& (31 : Int32)) = 12 then
    if inb (w3 + (1 : Int32)) L = true then
    if inb (w3 + (2 : Int32)) L = true then
    (F_X6_needed (xs (Int32.toNatClampNeg (w3 + (1 : Int32)))) (xs (Int32.toNatClampNeg (w3 + (2 : Int32)))) h).bind fun v97 =>
    if inb (w3 + (1 : Int32)) L = true then
    if inb (w3 + (2 : Int32)) L = true then
    (F_X7_needed (xs (Int32.toNatClampNeg (w3 + (1 : Int32)))) (xs (Int32.toNatClampNeg (w3 + (2 : Int32)))) h).bind fun q100 =>
    if v97 = q100.1 then
    F_L_law_943 xs L (F_L_law_18 xs L n) w3 q100.2
    else
    none
    else none
    else none
    else none
    else none
    else if ((xs (Int32.toNatClampNeg w3)) &&& (31 : Int32)) = 13 then
    if inb (w3 + (1 : Int32)) L = true then
    (F_X6_bears (xs (Int32.toNatClampNeg (w3 + (1 : Int32)))) h).bind fun v104 =>
    if inb (w3 + (1 : Int32)) L = true then
    (F_X7_bears (xs (Int32.toNatClampNeg (w3 + (1 : Int32)))) h).bind fun q106 =>
    if v104 = q106.1 then
    F_L_law_943 xs L (F_L_law_18 xs L n) w3 q106.2
    else
    none
    else none
    else none
    else if ((xs (Int32.toNatClampNeg w3)) &&& (31 : Int32)) = 14 then
    if inb (w3 + (1 : Int32)) L = true then
    if inb (w3 + (2 : Int32)) L = true then
    if inb (w3 + (3 : Int32)) L = true then
    if (xs (Int32.toNatClampNeg (w3 + (3 : Int32)))) = 0 then
    F_L_law_606 xs L (F_L_law_18 xs L n) w3 false (xs (Int32.toNatClampNeg (w3 + (2 : Int32)))) (xs (Int32.toNatClampNeg (w3 + (1 : Int32)))) h
    else
    F_L_law_606 xs L (F_L_law_18 xs L n) w3 true (xs (Int32.toNatClampNeg (w3 + (2 : Int32)))) (xs (Int32.toNatClampNeg (w3 + (1 : Int32)))) h
    else none
    else none
    else none
    else if ((xs (Int32.toNatClampNeg w3)) &&& (31 : Int32)) = 15 then
    if inb (w3 + (1 : Int32)) L = true then
    (F_X6_rest (xs (Int32.toNatClampNeg (w3 + (1 : Int32)))) h).bind fun v115 =>
    if inb (w3 + (1 : Int32)) L = true then
    (F_X7_rest (xs (Int32.toNatClampNeg (w3 + (1 : Int32)))) h).bind fun v117 =>
    if v115 = v117 then
    F_L_law_943 xs L (F_L_law_18 xs L n) w3 h
    else
    none
    else none
    else none
    else if ((xs (Int32.toNatClampNeg w3)) &&& (31 : Int32)) = 16 then
    if inb (w3 + (1 : Int32)) L = true then
    if inb (w3 + (2 : Int32)) L = true then
    if inb (w3 + (3 : Int32)) L = true then
    (F_X6_sledges (xs (Int32.toNatClampNeg (w3 + (1 : Int32)))) (xs (Int32.toNatClampNeg (w3 + (2 : Int32)))) (xs (Int32.toNatClampNeg (w3 + (3 : Int32)))) h).bind fun q123 =>
    if inb (w3 + (1 : Int32)) L = true then
    if inb (w3 + (2 : Int32)) L = true then
    if inb (w3 + (3 : Int32)) L = true then
    (F_X7_sledges (xs (Int32.toNatClampNeg (w3 + (1 : Int32)))) (xs (Int32.toNatClampNeg (w3 + (2 : Int32)))) (xs (Int32.toNatClampNeg (w3 + (3 : Int32)))) q123.2).bind fun q127 =>
    if q123.1 = q127.1 then
    F_L_law_943 xs L (F_L_law_18 xs L n) w3 q127.2
    else
    none
    else none
    else none
    else none
    else none
    else none
    else none
    else if ((xs (Int32.toNatClampNeg w3)) &&& (31 : Int32)) = 17 then
    if inb (w3 + (1 : Int32)) L = true then
    (F_X6_settled (xs (Int32.toNatClampNeg (w3 + (1 : Int32)))) h).bind fun q131 =>
    if inb (w3 + (1 : Int32)) L = true then
    (F_X7_settled (xs (Int32.toNatClampNeg (w3 + (1 : Int32)))) q131.2).bind fun q133 =>
    if q131.1 = q133.1 then
    F_L_law_943 xs L (F_L_law_18 xs L n) w3 q133.2
    else
    none
    else none
    else none
    else if ((xs (Int32.toNatClampNeg w3)) &&& (31 : Int32)) = 18 then
    if inb (w3 + (1 : Int32)) L = true then
    if inb (w3 + (2 : Int32)) L = true then
    if inb (w3 + (3 : Int32)) L = true then
    (F_X6_skate (xs (Int32.toNatClampNeg (w3 + (1 : Int32)))) (xs (Int32.toNatClampNeg (w3 + (2 : Int32)))) (xs (Int32.toNatClampNeg (w3 + (3 : Int32)))) h).bind fun q139 =>
    if inb (w3 + (1 : Int32)) L = true then
    if inb (w3 + (2 : Int32)) L = true then
    if inb (w3 + (3 : Int32)) L = true then
    (F_X7_skate (xs (Int32.toNatClampNeg (w3 + (1 : Int32)))) (xs (Int32.toNatClampNeg (w3 + (2 : Int32)))) (xs (Int32.toNatClampNeg (w3 + (3 : Int32)))) q139.2).bind fun q143 =>
    if q139.1 = q143.1 then
    F_L_law_943 xs L (F_L_law_18 xs L n) w3 q143.2
    else
    none
    else none
    else none
    else none
    else none
    else none
    else none
    else if ((xs (Int32.toNatClampNeg w3)) &&& (31 : Int32)) = 19 then
    if inb (w3 + (1 : Int32)) L = true then
    if inb (w3 + (2 : Int32)) L = true then
    if inb (w3 + (3 : Int32)) L = true then
    if inb (w3 + (4 : Int32)) L = true then
    if inb (w3 + (5 : Int32)) L = true then
    (F_X6_odds (xs (Int32.toNatClampNeg (w3 + (1 : Int32)))) (xs (Int32.toNatClampNeg (w3 + (2 : Int32)))) (xs (Int32.toNatClampNeg (w3 + (3 : Int32)))) (xs (Int32.toNatClampNeg (w3 + (4 : Int32)))) (xs (Int32.toNatClampNeg (w3 + (5 : Int32)))) h).bind fun v151 =>
    if inb (w3 + (1 : Int32)) L = true then
    if inb (w3 + (2 : Int32)) L = true then
    if inb (w3 + (3 : Int32)) L = true then
    if inb (w3 + (4 : Int32)) L = true then
    if inb (w3 + (5 : Int32)) L = true then
    (F_X7_odds (xs (Int32.toNatClampNeg (w3 + (1 : Int32)))) (xs (Int32.toNatClampNeg (w3 + (2 : Int32)))) (xs (Int32.toNatClampNeg (w3 + (3 : Int32)))) (xs (Int32.toNatClampNeg (w3 + (4 : Int32)))) (xs (Int32.toNatClampNeg (w3 + (5 : Int32)))) h).bind fun v157 =>
    if v151 = v157 then
    F_L_law_943 xs L (F_L_law_18 xs L n) w3 h
    else
    none
    else none
    else none
    else none
    else none
    else none
    else none
    else none
    else none
    else none
    else none
    else if ((xs (Int32.toNatClampNeg w3)) &&& (31 : Int32)) = 20 then
    if inb (w3 + (1 : Int32)) L = true then
    if inb (w3 + (2 : Int32)) L = true then
    if inb (w3 + (3 : Int32)) L = true then
    (F_X6_winter (xs (Int32.toNatClampNeg (w3 + (1 : Int32)))) (xs (Int32.toNatClampNeg (w3 + (2 : Int32)))) (xs (Int32.toNatClampNeg (w3 + (3 : Int32)))) h).bind fun q163 =>
    if inb (w3 + (1 : Int32)) L = true then
    if inb (w3 + (2 : Int32)) L = true then
    if inb (w3 + (3 : Int32)) L = true then
    (F_X7_winter (xs (Int32.toNatClampNeg (w3 + (1 : Int32)))) (xs (Int32.toNatClampNeg (w3 + (2 : Int32)))) (xs (Int32.toNatClampNeg (w3 + (3 : Int32)))) q163.2).bind fun q167 =>
    if q163.1 = q167.1 then
    F_L_law_943 xs L (F_L_law_18 xs L n) w3 q167.2
    else
    none
    else none
    else none
    else none
    else none
    else none
    else none
    else if ((xs (Int32.toNatClampNeg w3)) &&& (31 : Int32)) = 21 then
    (F_X6_image h).bind fun q170 =>
    (F_X7_image q170.2).bind fun q171 =>
    if q170.1 = q171.1 then
    F_L_law_943 xs L (F_L_law_18 xs L n) w3 q171.2
    else
    none
    else if ((xs (Int32.toNatClampNeg w3)) &&& (31 : Int32)) = 22 then
    (F_X6_restore h).bind fun q174 =>
    (F_X7_restore q174.2).bind fun q175 =>
    if q174.1 = q175.1 then
    F_L_law_943 xs L (F_L_law_18 xs L n) w3 q175.2
    else
    none
    else if ((xs (Int32.toNatClampNeg w3)) &&& (31 : Int32)) = 23 then
    if inb (w3 + (1 : Int32)) L = true then
    (F_X6_count (xs (Int32.toNatClampNeg (w3 + (1 : Int32)))) h).bind fun v179 =>
    if inb (w3 + (1 : Int32)) L = true then
    (F_X7_count (xs (Int32.toNatClampNeg (w3 + (1 : Int32)))) h).bind fun v181 =>
    if v179 = v181 then
    F_L_law_943 xs L (F_L_law_18 xs L n) w3 h
    else
    none
    else none
    else none
    else if ((xs (Int32.toNatClampNeg w3)) &&& (31 : Int32)) = 24 then
    (F_X6_digest h).bind fun q184 =>
    (F_X7_digest q184.2).bind fun q185 =>
    if q184.1 = q185.1 then
    F_L_law_943 xs L (F_L_law_18 xs L n) w3 q185.2
    else
    none
    else 
    F_L_law_943 xs L (F_L_law_18 xs L n) w3 h
    else none
set_option maxHeartbeats 4000000 in
set_option maxRecDepth 100000 in
theorem T_L_law_943 {G : Gm} {α : Nat → Nat} {xs : Nat → Int32} {L : Nat} {b : Nat} (hO : Ok G α cL_law 4 RL 9 320) (hR : Lx G b L xs) (k18 : Int32 → Hp → (Option Unit)) (hk18 : ∀ (w3 : Int32) (h : Hp), V G α 4 (kL) 18 [(0, .ref b), (1, .ref (α (54))), (2, .ref (α (55))), (3, .int w3)] [] h (k18 w3 h)) : ∀ (w3 : Int32) (h : Hp), V G α 4 (kL) 943 [(0, .ref b), (1, .ref (α (54))), (2, .ref (α (55))), (3, .int w3)] [] h (F_L_law_943 xs L k18 w3 h) := by
  intro w3 h
  rw [F_L_law_943]
  refine V_iinc hO (ls2 := [(3, .int (w3 + 7)), (0, .ref b), (1, .ref (α (54))), (2, .ref (α (55)))]) (z := 7) 3 dL_law_943 rfl (by decide) (by decide) rfl ?_
  refine V_goto hO 18 dL_law_946 (by decide) ?_
  exact V_sub [1, 2, 3, 0] rfl (hk18 (w3 + 7) h )
set_option maxHeartbeats 4000000 in
set_option maxRecDepth 100000 in
theorem T_L_law_633 {G : Gm} {α : Nat → Nat} {xs : Nat → Int32} {L : Nat} {b : Nat} (hO : Ok G α cL_law 4 RL 9 320) (hR : Lx G b L xs) (k18 : Int32 → Hp → (Option Unit)) (hk18 : ∀ (w3 : Int32) (h : Hp), V G α 4 (kL) 18 [(0, .ref b), (1, .ref (α (54))), (2, .ref (α (55))), (3, .int w3)] [] h (k18 w3 h)) : ∀ (w3 : Int32) (s0 : Bool) (s1 : Int32) (s2 : Int32) (s4 : Int32) (h : Hp), V G α 4 (kL) 633 [(0, .ref b), (1, .ref (α (54))), (2, .ref (α (55))), (3, .int w3)] [.int (b2i s0), .int s1, .int s2, .ref (α (55)), .int s4] h (F_L_law_633 xs L k18 w3 s0 s1 s2 s4 h) := by
  intro w3 s0 s1 s2 s4 h
  rw [F_L_law_633]
  refine V_callV hO ml_L_80 (C_X7_owes α s2 s1 s0 h) (by decide) (fun _ _ => ce_55) rfl rfl (rest := [.int s4]) rfl rfl (Nat.le_of_ble_eq_true rfl) ⟨Nat.le_of_ble_eq_true rfl, Nat.le_of_ble_eq_true rfl⟩ dL_law_633 (kc_OI rfl fun v1 => ?_)
  refine V_icmp_eq hO 943 dL_law_636 (by decide) ?_ ?_
  · exact V_sub [0, 1, 2, 3] rfl (T_L_law_943 hO hR k18 hk18 w3 h )
  · refine V_iconst hO 0 dL_law_639 (by decide) ?_
    exact V_none rfl
set_option maxHeartbeats 4000000 in
set_option maxRecDepth 100000 in
theorem T_L_law_606 {G : Gm} {α : Nat → Nat} {xs : Nat → Int32} {L : Nat} {b : Nat} (hO : Ok G α cL_law 4 RL 9 320) (hR : Lx G b L xs) (k18 : Int32 → Hp → (Option Unit)) (hk18 : ∀ (w3 : Int32) (h : Hp), V G α 4 (kL) 18 [(0, .ref b), (1, .ref (α (54))), (2, .ref (α (55))), (3, .int w3)] [] h (k18 w3 h)) : ∀ (w3 : Int32) (s0 : Bool) (s1 : Int32) (s2 : Int32) (h : Hp), V G α 4 (kL) 606 [(0, .ref b), (1, .ref (α (54))), (2, .ref (α (55))), (3, .int w3)] [.int (b2i s0), .int s1, .int s2, .ref (α (54))] h (F_L_law_606 xs L k18 w3 s0 s1 s2 h) := by
  intro w3 s0 s1 s2 h
  rw [F_L_law_606]
  refine V_callV hO ml_L_76 (C_X6_owes α s2 s1 s0 h) (by decide) (fun _ _ => ce_54) rfl rfl (rest := []) rfl rfl (Nat.le_of_ble_eq_true rfl) ⟨Nat.le_of_ble_eq_true rfl, Nat.le_of_ble_eq_true rfl⟩ dL_law_606 (kc_OI rfl fun v2 => ?_)
  refine V_aload_n hO 2 dL_law_609 rfl rfl ?_
  refine V_aload_n hO 0 dL_law_610 rfl rfl ?_
  refine V_iload_n hO 3 dL_law_611 rfl rfl ?_
  refine V_iconst hO 1 dL_law_612 (by decide) ?_
  refine V_iadd hO dL_law_613 ?_
  refine V_chk rfl fun c3 => ?_
  refine V_sld hO hR (inb_in c3) dL_law_614 ?_
  refine V_aload_n hO 0 dL_law_615 rfl rfl ?_
  refine V_iload_n hO 3 dL_law_616 rfl rfl ?_
  refine V_iconst hO 2 dL_law_617 (by decide) ?_
  refine V_iadd hO dL_law_618 ?_
  refine V_chk rfl fun c4 => ?_
  refine V_sld hO hR (inb_in c4) dL_law_619 ?_
  refine V_aload_n hO 0 dL_law_620 rfl rfl ?_
  refine V_iload_n hO 3 dL_law_621 rfl rfl ?_
  refine V_iconst hO 3 dL_law_622 (by decide) ?_
  refine V_iadd hO dL_law_623 ?_
  refine V_chk rfl fun c5 => ?_
  refine V_sld hO hR (inb_in c5) dL_law_624 ?_
  refine V_if_eq hO 632 dL_law_625 (by decide) ?_ ?_
  · refine V_iconst hO 0 dL_law_632 (by decide) ?_
    exact V_sub [0, 1, 2, 3] rfl (T_L_law_633 hO hR k18 hk18 w3 false (xs (Int32.toNatClampNeg (w3 + (2 : Int32)))) (xs (Int32.toNatClampNeg (w3 + (1 : Int32)))) v2 h )
  · refine V_iconst hO 1 dL_law_628 (by decide) ?_
    refine V_goto hO 633 dL_law_629 (by decide) ?_
    exact V_sub [0, 1, 2, 3] rfl (T_L_law_633 hO hR k18 hk18 w3 true (xs (Int32.toNatClampNeg (w3 + (2 : Int32)))) (xs (Int32.toNatClampNeg (w3 + (1 : Int32)))) v2 h )
set_option maxHeartbeats 4000000 in
set_option maxRecDepth 100000 in
theorem T_L_law_18 {G : Gm} {α : Nat → Nat} {xs : Nat → Int32} {L : Nat} {b : Nat} (hO : Ok G α cL_law 4 RL 9 320) (hR : Lx G b L xs) : ∀ (fuel : Nat) (w3 : Int32) (h : Hp), V G α 4 (kL) 18 [(0, .ref b), (1, .ref (α (54))), (2, .ref (α (55))), (3, .int w3)] [] h (F_L_law_18 xs L fuel w3 h) := by
  intro fuel
  induction fuel with
  | zero => intro w3 h; exact V_none rfl
  | succ n ih =>
    intro w3 h
    rw [F_L_law_18]
    refine V_iload_n hO 3 dL_law_18 rfl rfl ?_
    refine V_aload_n hO 0 dL_law_19 rfl rfl ?_
    refine V_slen hO hR dL_law_20 ?_
    refine V_bipush hO 7 dL_law_21 (by decide) ?_
    refine V_isub hO dL_law_23 ?_
    refine V_icmp_gt hO 949 dL_law_24 (by decide) ?_ ?_
    · refine V_iconst hO 1 dL_law_949 (by decide) ?_
      exact V_lawret hO hR dL_law_950
    · refine V_aload_n hO 0 dL_law_27 rfl rfl ?_
      refine V_iload_n hO 3 dL_law_28 rfl rfl ?_
      refine V_chk rfl fun c6 => ?_
      refine V_sld hO hR (inb_in c6) dL_law_29 ?_
      refine V_bipush hO 31 dL_law_30 (by decide) ?_
      refine V_iand hO dL_law_32 ?_
      refine V_case (fun c13 => ?_) (fun n14 => ?_)
      · refine V_tsIn hO (off := 115) 148 dL_law_33 (by rw [c13]; decide) (by rw [c13]; decide) (by rw [c13]; first | done | rfl | decide) (by decide) ?_
        refine V_aload_n hO 1 dL_law_148 rfl rfl ?_
        refine V_aload_n hO 0 dL_law_149 rfl rfl ?_
        refine V_iload_n hO 3 dL_law_150 rfl rfl ?_
        refine V_iconst hO 1 dL_law_151 (by decide) ?_
        refine V_iadd hO dL_law_152 ?_
        refine V_chk rfl fun c7 => ?_
        refine V_sld hO hR (inb_in c7) dL_law_153 ?_
        refine V_aload_n hO 0 dL_law_154 rfl rfl ?_
        refine V_iload_n hO 3 dL_law_155 rfl rfl ?_
        refine V_iconst hO 2 dL_law_156 (by decide) ?_
        refine V_iadd hO dL_law_157 ?_
        refine V_chk rfl fun c8 => ?_
        refine V_sld hO hR (inb_in c8) dL_law_158 ?_
        refine V_callV hO ml_L_13 (C_X6_lake α (xs (Int32.toNatClampNeg (w3 + (1 : Int32)))) (xs (Int32.toNatClampNeg (w3 + (2 : Int32)))) h) (by decide) (fun _ _ => ce_54) rfl rfl (rest := []) rfl rfl (Nat.le_of_ble_eq_true rfl) ⟨Nat.le_of_ble_eq_true rfl, Nat.le_of_ble_eq_true rfl⟩ dL_law_159 (kc_SI rfl fun q9 => ?_)
        refine V_aload_n hO 2 dL_law_162 rfl rfl ?_
        refine V_aload_n hO 0 dL_law_163 rfl rfl ?_
        refine V_iload_n hO 3 dL_law_164 rfl rfl ?_
        refine V_iconst hO 1 dL_law_165 (by decide) ?_
        refine V_iadd hO dL_law_166 ?_
        refine V_chk rfl fun c10 => ?_
        refine V_sld hO hR (inb_in c10) dL_law_167 ?_
        refine V_aload_n hO 0 dL_law_168 rfl rfl ?_
        refine V_iload_n hO 3 dL_law_169 rfl rfl ?_
        refine V_iconst hO 2 dL_law_170 (by decide) ?_
        refine V_iadd hO dL_law_171 ?_
        refine V_chk rfl fun c11 => ?_
        refine V_sld hO hR (inb_in c11) dL_law_172 ?_
        refine V_callV hO ml_L_17 (C_X7_lake α (xs (Int32.toNatClampNeg (w3 + (1 : Int32)))) (xs (Int32.toNatClampNeg (w3 + (2 : Int32)))) q9.2) (by decide) (fun _ _ => ce_55) rfl rfl (rest := [.int q9.1]) rfl rfl (Nat.le_of_ble_eq_true rfl) ⟨Nat.le_of_ble_eq_true rfl, Nat.le_of_ble_eq_true rfl⟩ dL_law_173 (kc_SI rfl fun q12 => ?_)
        refine V_icmp_eq hO 943 dL_law_176 (by decide) ?_ ?_
        · exact V_sub [0, 1, 2, 3] rfl (T_L_law_943 hO hR (F_L_law_18 xs L n) ih w3 q12.2 )
        · refine V_iconst hO 0 dL_law_179 (by decide) ?_
          exact V_none rfl
      refine V_case (fun c21 => ?_) (fun n22 => ?_)
      · refine V_tsIn hO (off := 148) 181 dL_law_33 (by rw [c21]; decide) (by rw [c21]; decide) (by rw [c21]; first | done | rfl | decide) (by decide) ?_
        refine V_aload_n hO 1 dL_law_181 rfl rfl ?_
        refine V_aload_n hO 0 dL_law_182 rfl rfl ?_
        refine V_iload_n hO 3 dL_law_183 rfl rfl ?_
        refine V_iconst hO 1 dL_law_184 (by decide) ?_
        refine V_iadd hO dL_law_185 ?_
        refine V_chk rfl fun c15 => ?_
        refine V_sld hO hR (inb_in c15) dL_law_186 ?_
        refine V_aload_n hO 0 dL_law_187 rfl rfl ?_
        refine V_iload_n hO 3 dL_law_188 rfl rfl ?_
        refine V_iconst hO 2 dL_law_189 (by decide) ?_
        refine V_iadd hO dL_law_190 ?_
        refine V_chk rfl fun c16 => ?_
        refine V_sld hO hR (inb_in c16) dL_law_191 ?_
        refine V_callV hO ml_L_18 (C_X6_ice α (xs (Int32.toNatClampNeg (w3 + (1 : Int32)))) (xs (Int32.toNatClampNeg (w3 + (2 : Int32)))) h) (by decide) (fun _ _ => ce_54) rfl rfl (rest := []) rfl rfl (Nat.le_of_ble_eq_true rfl) ⟨Nat.le_of_ble_eq_true rfl, Nat.le_of_ble_eq_true rfl⟩ dL_law_192 (kc_SI rfl fun q17 => ?_)
        refine V_aload_n hO 2 dL_law_195 rfl rfl ?_
        refine V_aload_n hO 0 dL_law_196 rfl rfl ?_
        refine V_iload_n hO 3 dL_law_197 rfl rfl ?_
        refine V_iconst hO 1 dL_law_198 (by decide) ?_
        refine V_iadd hO dL_law_199 ?_
        refine V_chk rfl fun c18 => ?_
        refine V_sld hO hR (inb_in c18) dL_law_200 ?_
        refine V_aload_n hO 0 dL_law_201 rfl rfl ?_
        refine V_iload_n hO 3 dL_law_202 rfl rfl ?_
        refine V_iconst hO 2 dL_law_203 (by decide) ?_
        refine V_iadd hO dL_law_204 ?_
        refine V_chk rfl fun c19 => ?_
        refine V_sld hO hR (inb_in c19) dL_law_205 ?_
        refine V_callV hO ml_L_21 (C_X7_ice α (xs (Int32.toNatClampNeg (w3 + (1 : Int32)))) (xs (Int32.toNatClampNeg (w3 + (2 : Int32)))) q17.2) (by decide) (fun _ _ => ce_55) rfl rfl (rest := [.int q17.1]) rfl rfl (Nat.le_of_ble_eq_true rfl) ⟨Nat.le_of_ble_eq_true rfl, Nat.le_of_ble_eq_true rfl⟩ dL_law_206 (kc_SI rfl fun q20 => ?_)
        refine V_icmp_eq hO 943 dL_law_209 (by decide) ?_ ?_
        · exact V_sub [0, 1, 2, 3] rfl (T_L_law_943 hO hR (F_L_law_18 xs L n) ih w3 q20.2 )
        · refine V_iconst hO 0 dL_law_212 (by decide) ?_
          exact V_none rfl
      refine V_case (fun c29 => ?_) (fun n30 => ?_)
      · refine V_tsIn hO (off := 181) 214 dL_law_33 (by rw [c29]; decide) (by rw [c29]; decide) (by rw [c29]; first | done | rfl | decide) (by decide) ?_
        refine V_aload_n hO 1 dL_law_214 rfl rfl ?_
        refine V_aload_n hO 0 dL_law_215 rfl rfl ?_
        refine V_iload_n hO 3 dL_law_216 rfl rfl ?_
        refine V_iconst hO 1 dL_law_217 (by decide) ?_
        refine V_iadd hO dL_law_218 ?_
        refine V_chk rfl fun c23 => ?_
        refine V_sld hO hR (inb_in c23) dL_law_219 ?_
        refine V_aload_n hO 0 dL_law_220 rfl rfl ?_
        refine V_iload_n hO 3 dL_law_221 rfl rfl ?_
        refine V_iconst hO 2 dL_law_222 (by decide) ?_
        refine V_iadd hO dL_law_223 ?_
        refine V_chk rfl fun c24 => ?_
        refine V_sld hO hR (inb_in c24) dL_law_224 ?_
        refine V_callV hO ml_L_22 (C_X6_square α (xs (Int32.toNatClampNeg (w3 + (1 : Int32)))) (xs (Int32.toNatClampNeg (w3 + (2 : Int32)))) h) (by decide) (fun _ _ => ce_54) rfl rfl (rest := []) rfl rfl (Nat.le_of_ble_eq_true rfl) ⟨Nat.le_of_ble_eq_true rfl, Nat.le_of_ble_eq_true rfl⟩ dL_law_225 (kc_OI rfl fun v25 => ?_)
        refine V_aload_n hO 2 dL_law_228 rfl rfl ?_
        refine V_aload_n hO 0 dL_law_229 rfl rfl ?_
        refine V_iload_n hO 3 dL_law_230 rfl rfl ?_
        refine V_iconst hO 1 dL_law_231 (by decide) ?_
        refine V_iadd hO dL_law_232 ?_
        refine V_chk rfl fun c26 => ?_
        refine V_sld hO hR (inb_in c26) dL_law_233 ?_
        refine V_aload_n hO 0 dL_law_234 rfl rfl ?_
        refine V_iload_n hO 3 dL_law_235 rfl rfl ?_
        refine V_iconst hO 2 dL_law_236 (by decide) ?_
        refine V_iadd hO dL_law_237 ?_
        refine V_chk rfl fun c27 => ?_
        refine V_sld hO hR (inb_in c27) dL_law_238 ?_
        refine V_callV hO ml_L_25 (C_X7_square α (xs (Int32.toNatClampNeg (w3 + (1 : Int32)))) (xs (Int32.toNatClampNeg (w3 + (2 : Int32)))) h) (by decide) (fun _ _ => ce_55) rfl rfl (rest := [.int v25]) rfl rfl (Nat.le_of_ble_eq_true rfl) ⟨Nat.le_of_ble_eq_true rfl, Nat.le_of_ble_eq_true rfl⟩ dL_law_239 (kc_OI rfl fun v28 => ?_)
        refine V_icmp_eq hO 943 dL_law_242 (by decide) ?_ ?_
        · exact V_sub [0, 1, 2, 3] rfl (T_L_law_943 hO hR (F_L_law_18 xs L n) ih w3 h )
        · refine V_iconst hO 0 dL_law_245 (by decide) ?_
          exact V_none rfl
      refine V_case (fun c35 => ?_) (fun n36 => ?_)
      · refine V_tsIn hO (off := 214) 247 dL_law_33 (by rw [c35]; decide) (by rw [c35]; decide) (by rw [c35]; first | done | rfl | decide) (by decide) ?_
        refine V_aload_n hO 1 dL_law_247 rfl rfl ?_
        refine V_aload_n hO 0 dL_law_248 rfl rfl ?_
        refine V_iload_n hO 3 dL_law_249 rfl rfl ?_
        refine V_iconst hO 1 dL_law_250 (by decide) ?_
        refine V_iadd hO dL_law_251 ?_
        refine V_chk rfl fun c31 => ?_
        refine V_sld hO hR (inb_in c31) dL_law_252 ?_
        refine V_callV hO ml_L_26 (C_X6_fish α (xs (Int32.toNatClampNeg (w3 + (1 : Int32)))) h) (by decide) (fun _ _ => ce_54) rfl rfl (rest := []) rfl rfl (Nat.le_of_ble_eq_true rfl) ⟨Nat.le_of_ble_eq_true rfl, Nat.le_of_ble_eq_true rfl⟩ dL_law_253 (kc_SI rfl fun q32 => ?_)
        refine V_aload_n hO 2 dL_law_256 rfl rfl ?_
        refine V_aload_n hO 0 dL_law_257 rfl rfl ?_
        refine V_iload_n hO 3 dL_law_258 rfl rfl ?_
        refine V_iconst hO 1 dL_law_259 (by decide) ?_
        refine V_iadd hO dL_law_260 ?_
        refine V_chk rfl fun c33 => ?_
        refine V_sld hO hR (inb_in c33) dL_law_261 ?_
        refine V_callV hO ml_L_30 (C_X7_fish α (xs (Int32.toNatClampNeg (w3 + (1 : Int32)))) q32.2) (by decide) (fun _ _ => ce_55) rfl rfl (rest := [.int q32.1]) rfl rfl (Nat.le_of_ble_eq_true rfl) ⟨Nat.le_of_ble_eq_true rfl, Nat.le_of_ble_eq_true rfl⟩ dL_law_262 (kc_SI rfl fun q34 => ?_)
        refine V_icmp_eq hO 943 dL_law_265 (by decide) ?_ ?_
        · exact V_sub [0, 1, 2, 3] rfl (T_L_law_943 hO hR (F_L_law_18 xs L n) ih w3 q34.2 )
        · refine V_iconst hO 0 dL_law_268 (by decide) ?_
          exact V_none rfl
      refine V_case (fun c51 => ?_) (fun n52 => ?_)
      · refine V_tsIn hO (off := 237) 270 dL_law_33 (by rw [c51]; decide) (by rw [c51]; decide) (by rw [c51]; first | done | rfl | decide) (by decide) ?_
        refine V_aload_n hO 1 dL_law_270 rfl rfl ?_
        refine V_aload_n hO 0 dL_law_271 rfl rfl ?_
        refine V_iload_n hO 3 dL_law_272 rfl rfl ?_
        refine V_iconst hO 1 dL_law_273 (by decide) ?_
        refine V_iadd hO dL_law_274 ?_
        refine V_chk rfl fun c37 => ?_
        refine V_sld hO hR (inb_in c37) dL_law_275 ?_
        refine V_aload_n hO 0 dL_law_276 rfl rfl ?_
        refine V_iload_n hO 3 dL_law_277 rfl rfl ?_
        refine V_iconst hO 2 dL_law_278 (by decide) ?_
        refine V_iadd hO dL_law_279 ?_
        refine V_chk rfl fun c38 => ?_
        refine V_sld hO hR (inb_in c38) dL_law_280 ?_
        refine V_aload_n hO 0 dL_law_281 rfl rfl ?_
        refine V_iload_n hO 3 dL_law_282 rfl rfl ?_
        refine V_iconst hO 3 dL_law_283 (by decide) ?_
        refine V_iadd hO dL_law_284 ?_
        refine V_chk rfl fun c39 => ?_
        refine V_sld hO hR (inb_in c39) dL_law_285 ?_
        refine V_aload_n hO 0 dL_law_286 rfl rfl ?_
        refine V_iload_n hO 3 dL_law_287 rfl rfl ?_
        refine V_iconst hO 4 dL_law_288 (by decide) ?_
        refine V_iadd hO dL_law_289 ?_
        refine V_chk rfl fun c40 => ?_
        refine V_sld hO hR (inb_in c40) dL_law_290 ?_
        refine V_aload_n hO 0 dL_law_291 rfl rfl ?_
        refine V_iload_n hO 3 dL_law_292 rfl rfl ?_
        refine V_iconst hO 5 dL_law_293 (by decide) ?_
        refine V_iadd hO dL_law_294 ?_
        refine V_chk rfl fun c41 => ?_
        refine V_sld hO hR (inb_in c41) dL_law_295 ?_
        refine V_aload_n hO 0 dL_law_296 rfl rfl ?_
        refine V_iload_n hO 3 dL_law_297 rfl rfl ?_
        refine V_bipush hO 6 dL_law_298 (by decide) ?_
        refine V_iadd hO dL_law_300 ?_
        refine V_chk rfl fun c42 => ?_
        refine V_sld hO hR (inb_in c42) dL_law_301 ?_
        refine V_callV hO ml_L_31 (C_X6_write α (xs (Int32.toNatClampNeg (w3 + (1 : Int32)))) (xs (Int32.toNatClampNeg (w3 + (2 : Int32)))) (xs (Int32.toNatClampNeg (w3 + (3 : Int32)))) (xs (Int32.toNatClampNeg (w3 + (4 : Int32)))) (xs (Int32.toNatClampNeg (w3 + (5 : Int32)))) (xs (Int32.toNatClampNeg (w3 + (6 : Int32)))) h) (by decide) (fun _ _ => ce_54) rfl rfl (rest := []) rfl rfl (Nat.le_of_ble_eq_true rfl) ⟨Nat.le_of_ble_eq_true rfl, Nat.le_of_ble_eq_true rfl⟩ dL_law_302 (kc_SI rfl fun q43 => ?_)
        refine V_aload_n hO 2 dL_law_305 rfl rfl ?_
        refine V_aload_n hO 0 dL_law_306 rfl rfl ?_
        refine V_iload_n hO 3 dL_law_307 rfl rfl ?_
        refine V_iconst hO 1 dL_law_308 (by decide) ?_
        refine V_iadd hO dL_law_309 ?_
        refine V_chk rfl fun c44 => ?_
        refine V_sld hO hR (inb_in c44) dL_law_310 ?_
        refine V_aload_n hO 0 dL_law_311 rfl rfl ?_
        refine V_iload_n hO 3 dL_law_312 rfl rfl ?_
        refine V_iconst hO 2 dL_law_313 (by decide) ?_
        refine V_iadd hO dL_law_314 ?_
        refine V_chk rfl fun c45 => ?_
        refine V_sld hO hR (inb_in c45) dL_law_315 ?_
        refine V_aload_n hO 0 dL_law_316 rfl rfl ?_
        refine V_iload_n hO 3 dL_law_317 rfl rfl ?_
        refine V_iconst hO 3 dL_law_318 (by decide) ?_
        refine V_iadd hO dL_law_319 ?_
        refine V_chk rfl fun c46 => ?_
        refine V_sld hO hR (inb_in c46) dL_law_320 ?_
        refine V_aload_n hO 0 dL_law_321 rfl rfl ?_
        refine V_iload_n hO 3 dL_law_322 rfl rfl ?_
        refine V_iconst hO 4 dL_law_323 (by decide) ?_
        refine V_iadd hO dL_law_324 ?_
        refine V_chk rfl fun c47 => ?_
        refine V_sld hO hR (inb_in c47) dL_law_325 ?_
        refine V_aload_n hO 0 dL_law_326 rfl rfl ?_
        refine V_iload_n hO 3 dL_law_327 rfl rfl ?_
        refine V_iconst hO 5 dL_law_328 (by decide) ?_
        refine V_iadd hO dL_law_329 ?_
        refine V_chk rfl fun c48 => ?_
        refine V_sld hO hR (inb_in c48) dL_law_330 ?_
        refine V_aload_n hO 0 dL_law_331 rfl rfl ?_
        refine V_iload_n hO 3 dL_law_332 rfl rfl ?_
        refine V_bipush hO 6 dL_law_333 (by decide) ?_
        refine V_iadd hO dL_law_335 ?_
        refine V_chk rfl fun c49 => ?_
        refine V_sld hO hR (inb_in c49) dL_law_336 ?_
        refine V_callV hO ml_L_35 (C_X7_write α (xs (Int32.toNatClampNeg (w3 + (1 : Int32)))) (xs (Int32.toNatClampNeg (w3 + (2 : Int32)))) (xs (Int32.toNatClampNeg (w3 + (3 : Int32)))) (xs (Int32.toNatClampNeg (w3 + (4 : Int32)))) (xs (Int32.toNatClampNeg (w3 + (5 : Int32)))) (xs (Int32.toNatClampNeg (w3 + (6 : Int32)))) q43.2) (by decide) (fun _ _ => ce_55) rfl rfl (rest := [.int q43.1]) rfl rfl (Nat.le_of_ble_eq_true rfl) ⟨Nat.le_of_ble_eq_true rfl, Nat.le_of_ble_eq_true rfl⟩ dL_law_337 (kc_SI rfl fun q50 => ?_)
        refine V_icmp_eq hO 943 dL_law_340 (by decide) ?_ ?_
        · exact V_sub [0, 1, 2, 3] rfl (T_L_law_943 hO hR (F_L_law_18 xs L n) ih w3 q50.2 )
        · refine V_iconst hO 0 dL_law_343 (by decide) ?_
          exact V_none rfl
      refine V_case (fun c59 => ?_) (fun n60 => ?_)
      · refine V_tsIn hO (off := 312) 345 dL_law_33 (by rw [c59]; decide) (by rw [c59]; decide) (by rw [c59]; first | done | rfl | decide) (by decide) ?_
        refine V_aload_n hO 1 dL_law_345 rfl rfl ?_
        refine V_aload_n hO 0 dL_law_346 rfl rfl ?_
        refine V_iload_n hO 3 dL_law_347 rfl rfl ?_
        refine V_iconst hO 1 dL_law_348 (by decide) ?_
        refine V_iadd hO dL_law_349 ?_
        refine V_chk rfl fun c53 => ?_
        refine V_sld hO hR (inb_in c53) dL_law_350 ?_
        refine V_aload_n hO 0 dL_law_351 rfl rfl ?_
        refine V_iload_n hO 3 dL_law_352 rfl rfl ?_
        refine V_iconst hO 2 dL_law_353 (by decide) ?_
        refine V_iadd hO dL_law_354 ?_
        refine V_chk rfl fun c54 => ?_
        refine V_sld hO hR (inb_in c54) dL_law_355 ?_
        refine V_callV hO ml_L_36 (C_X6_about α (xs (Int32.toNatClampNeg (w3 + (1 : Int32)))) (xs (Int32.toNatClampNeg (w3 + (2 : Int32)))) h) (by decide) (fun _ _ => ce_54) rfl rfl (rest := []) rfl rfl (Nat.le_of_ble_eq_true rfl) ⟨Nat.le_of_ble_eq_true rfl, Nat.le_of_ble_eq_true rfl⟩ dL_law_356 (kc_OI rfl fun v55 => ?_)
        refine V_aload_n hO 2 dL_law_359 rfl rfl ?_
        refine V_aload_n hO 0 dL_law_360 rfl rfl ?_
        refine V_iload_n hO 3 dL_law_361 rfl rfl ?_
        refine V_iconst hO 1 dL_law_362 (by decide) ?_
        refine V_iadd hO dL_law_363 ?_
        refine V_chk rfl fun c56 => ?_
        refine V_sld hO hR (inb_in c56) dL_law_364 ?_
        refine V_aload_n hO 0 dL_law_365 rfl rfl ?_
        refine V_iload_n hO 3 dL_law_366 rfl rfl ?_
        refine V_iconst hO 2 dL_law_367 (by decide) ?_
        refine V_iadd hO dL_law_368 ?_
        refine V_chk rfl fun c57 => ?_
        refine V_sld hO hR (inb_in c57) dL_law_369 ?_
        refine V_callV hO ml_L_39 (C_X7_about α (xs (Int32.toNatClampNeg (w3 + (1 : Int32)))) (xs (Int32.toNatClampNeg (w3 + (2 : Int32)))) h) (by decide) (fun _ _ => ce_55) rfl rfl (rest := [.int v55]) rfl rfl (Nat.le_of_ble_eq_true rfl) ⟨Nat.le_of_ble_eq_true rfl, Nat.le_of_ble_eq_true rfl⟩ dL_law_370 (kc_OI rfl fun v58 => ?_)
        refine V_icmp_eq hO 943 dL_law_373 (by decide) ?_ ?_
        · exact V_sub [0, 1, 2, 3] rfl (T_L_law_943 hO hR (F_L_law_18 xs L n) ih w3 h )
        · refine V_iconst hO 0 dL_law_376 (by decide) ?_
          exact V_none rfl
      refine V_case (fun c67 => ?_) (fun n68 => ?_)
      · refine V_tsIn hO (off := 345) 378 dL_law_33 (by rw [c67]; decide) (by rw [c67]; decide) (by rw [c67]; first | done | rfl | decide) (by decide) ?_
        refine V_aload_n hO 1 dL_law_378 rfl rfl ?_
        refine V_aload_n hO 0 dL_law_379 rfl rfl ?_
        refine V_iload_n hO 3 dL_law_380 rfl rfl ?_
        refine V_iconst hO 1 dL_law_381 (by decide) ?_
        refine V_iadd hO dL_law_382 ?_
        refine V_chk rfl fun c61 => ?_
        refine V_sld hO hR (inb_in c61) dL_law_383 ?_
        refine V_aload_n hO 0 dL_law_384 rfl rfl ?_
        refine V_iload_n hO 3 dL_law_385 rfl rfl ?_
        refine V_iconst hO 2 dL_law_386 (by decide) ?_
        refine V_iadd hO dL_law_387 ?_
        refine V_chk rfl fun c62 => ?_
        refine V_sld hO hR (inb_in c62) dL_law_388 ?_
        refine V_callV hO ml_L_40 (C_X6_as α (xs (Int32.toNatClampNeg (w3 + (1 : Int32)))) (xs (Int32.toNatClampNeg (w3 + (2 : Int32)))) h) (by decide) (fun _ _ => ce_54) rfl rfl (rest := []) rfl rfl (Nat.le_of_ble_eq_true rfl) ⟨Nat.le_of_ble_eq_true rfl, Nat.le_of_ble_eq_true rfl⟩ dL_law_389 (kc_OI rfl fun v63 => ?_)
        refine V_aload_n hO 2 dL_law_392 rfl rfl ?_
        refine V_aload_n hO 0 dL_law_393 rfl rfl ?_
        refine V_iload_n hO 3 dL_law_394 rfl rfl ?_
        refine V_iconst hO 1 dL_law_395 (by decide) ?_
        refine V_iadd hO dL_law_396 ?_
        refine V_chk rfl fun c64 => ?_
        refine V_sld hO hR (inb_in c64) dL_law_397 ?_
        refine V_aload_n hO 0 dL_law_398 rfl rfl ?_
        refine V_iload_n hO 3 dL_law_399 rfl rfl ?_
        refine V_iconst hO 2 dL_law_400 (by decide) ?_
        refine V_iadd hO dL_law_401 ?_
        refine V_chk rfl fun c65 => ?_
        refine V_sld hO hR (inb_in c65) dL_law_402 ?_
        refine V_callV hO ml_L_43 (C_X7_as α (xs (Int32.toNatClampNeg (w3 + (1 : Int32)))) (xs (Int32.toNatClampNeg (w3 + (2 : Int32)))) h) (by decide) (fun _ _ => ce_55) rfl rfl (rest := [.int v63]) rfl rfl (Nat.le_of_ble_eq_true rfl) ⟨Nat.le_of_ble_eq_true rfl, Nat.le_of_ble_eq_true rfl⟩ dL_law_403 (kc_OI rfl fun v66 => ?_)
        refine V_icmp_eq hO 943 dL_law_406 (by decide) ?_ ?_
        · exact V_sub [0, 1, 2, 3] rfl (T_L_law_943 hO hR (F_L_law_18 xs L n) ih w3 h )
        · refine V_iconst hO 0 dL_law_409 (by decide) ?_
          exact V_none rfl
      refine V_case (fun c73 => ?_) (fun n74 => ?_)
      · refine V_tsIn hO (off := 378) 411 dL_law_33 (by rw [c73]; decide) (by rw [c73]; decide) (by rw [c73]; first | done | rfl | decide) (by decide) ?_
        refine V_aload_n hO 1 dL_law_411 rfl rfl ?_
        refine V_aload_n hO 0 dL_law_412 rfl rfl ?_
        refine V_iload_n hO 3 dL_law_413 rfl rfl ?_
        refine V_iconst hO 1 dL_law_414 (by decide) ?_
        refine V_iadd hO dL_law_415 ?_
        refine V_chk rfl fun c69 => ?_
        refine V_sld hO hR (inb_in c69) dL_law_416 ?_
        refine V_callV hO ml_L_44 (C_X6_saw α (xs (Int32.toNatClampNeg (w3 + (1 : Int32)))) h) (by decide) (fun _ _ => ce_54) rfl rfl (rest := []) rfl rfl (Nat.le_of_ble_eq_true rfl) ⟨Nat.le_of_ble_eq_true rfl, Nat.le_of_ble_eq_true rfl⟩ dL_law_417 (kc_SI rfl fun q70 => ?_)
        refine V_aload_n hO 2 dL_law_420 rfl rfl ?_
        refine V_aload_n hO 0 dL_law_421 rfl rfl ?_
        refine V_iload_n hO 3 dL_law_422 rfl rfl ?_
        refine V_iconst hO 1 dL_law_423 (by decide) ?_
        refine V_iadd hO dL_law_424 ?_
        refine V_chk rfl fun c71 => ?_
        refine V_sld hO hR (inb_in c71) dL_law_425 ?_
        refine V_callV hO ml_L_47 (C_X7_saw α (xs (Int32.toNatClampNeg (w3 + (1 : Int32)))) q70.2) (by decide) (fun _ _ => ce_55) rfl rfl (rest := [.int q70.1]) rfl rfl (Nat.le_of_ble_eq_true rfl) ⟨Nat.le_of_ble_eq_true rfl, Nat.le_of_ble_eq_true rfl⟩ dL_law_426 (kc_SI rfl fun q72 => ?_)
        refine V_icmp_eq hO 943 dL_law_429 (by decide) ?_ ?_
        · exact V_sub [0, 1, 2, 3] rfl (T_L_law_943 hO hR (F_L_law_18 xs L n) ih w3 q72.2 )
        · refine V_iconst hO 0 dL_law_432 (by decide) ?_
          exact V_none rfl
      refine V_case (fun c81 => ?_) (fun n82 => ?_)
      · refine V_tsIn hO (off := 401) 434 dL_law_33 (by rw [c81]; decide) (by rw [c81]; decide) (by rw [c81]; first | done | rfl | decide) (by decide) ?_
        refine V_aload_n hO 1 dL_law_434 rfl rfl ?_
        refine V_aload_n hO 0 dL_law_435 rfl rfl ?_
        refine V_iload_n hO 3 dL_law_436 rfl rfl ?_
        refine V_iconst hO 1 dL_law_437 (by decide) ?_
        refine V_iadd hO dL_law_438 ?_
        refine V_chk rfl fun c75 => ?_
        refine V_sld hO hR (inb_in c75) dL_law_439 ?_
        refine V_i2l hO dL_law_440 ?_
        refine V_bipush hO 32 dL_law_441 (by decide) ?_
        refine V_lshl hO dL_law_443 ?_
        refine V_aload_n hO 0 dL_law_444 rfl rfl ?_
        refine V_iload_n hO 3 dL_law_445 rfl rfl ?_
        refine V_iconst hO 2 dL_law_446 (by decide) ?_
        refine V_iadd hO dL_law_447 ?_
        refine V_chk rfl fun c76 => ?_
        refine V_sld hO hR (inb_in c76) dL_law_448 ?_
        refine V_i2l hO dL_law_449 ?_
        refine V_ldc2 hO (v := 4294967295) dL_law_450 cn_L_48 ?_
        refine V_land hO dL_law_453 ?_
        refine V_lor hO dL_law_454 ?_
        refine V_callV hO ml_L_50 (C_X6_letters α ((jlshl (Int32.toInt64 (xs (Int32.toNatClampNeg (w3 + (1 : Int32))))) (32 : Int32)) ||| ((Int32.toInt64 (xs (Int32.toNatClampNeg (w3 + (2 : Int32))))) &&& (4294967295 : Int64))) h) (by decide) (fun _ _ => ce_54) rfl rfl (rest := []) rfl rfl (Nat.le_of_ble_eq_true rfl) ⟨Nat.le_of_ble_eq_true rfl, Nat.le_of_ble_eq_true rfl⟩ dL_law_455 (kc_SI rfl fun q77 => ?_)
        refine V_aload_n hO 2 dL_law_458 rfl rfl ?_
        refine V_aload_n hO 0 dL_law_459 rfl rfl ?_
        refine V_iload_n hO 3 dL_law_460 rfl rfl ?_
        refine V_iconst hO 1 dL_law_461 (by decide) ?_
        refine V_iadd hO dL_law_462 ?_
        refine V_chk rfl fun c78 => ?_
        refine V_sld hO hR (inb_in c78) dL_law_463 ?_
        refine V_i2l hO dL_law_464 ?_
        refine V_bipush hO 32 dL_law_465 (by decide) ?_
        refine V_lshl hO dL_law_467 ?_
        refine V_aload_n hO 0 dL_law_468 rfl rfl ?_
        refine V_iload_n hO 3 dL_law_469 rfl rfl ?_
        refine V_iconst hO 2 dL_law_470 (by decide) ?_
        refine V_iadd hO dL_law_471 ?_
        refine V_chk rfl fun c79 => ?_
        refine V_sld hO hR (inb_in c79) dL_law_472 ?_
        refine V_i2l hO dL_law_473 ?_
        refine V_ldc2 hO (v := 4294967295) dL_law_474 cn_L_48 ?_
        refine V_land hO dL_law_477 ?_
        refine V_lor hO dL_law_478 ?_
        refine V_callV hO ml_L_54 (C_X7_letters α ((jlshl (Int32.toInt64 (xs (Int32.toNatClampNeg (w3 + (1 : Int32))))) (32 : Int32)) ||| ((Int32.toInt64 (xs (Int32.toNatClampNeg (w3 + (2 : Int32))))) &&& (4294967295 : Int64))) q77.2) (by decide) (fun _ _ => ce_55) rfl rfl (rest := [.int q77.1]) rfl rfl (Nat.le_of_ble_eq_true rfl) ⟨Nat.le_of_ble_eq_true rfl, Nat.le_of_ble_eq_true rfl⟩ dL_law_479 (kc_SI rfl fun q80 => ?_)
        refine V_icmp_eq hO 943 dL_law_482 (by decide) ?_ ?_
        · exact V_sub [0, 1, 2, 3] rfl (T_L_law_943 hO hR (F_L_law_18 xs L n) ih w3 q80.2 )
        · refine V_iconst hO 0 dL_law_485 (by decide) ?_
          exact V_none rfl
      refine V_case (fun c85 => ?_) (fun n86 => ?_)
      · refine V_tsIn hO (off := 454) 487 dL_law_33 (by rw [c85]; decide) (by rw [c85]; decide) (by rw [c85]; first | done | rfl | decide) (by decide) ?_
        refine V_aload_n hO 1 dL_law_487 rfl rfl ?_
        refine V_callV hO ml_L_55 (C_X6_blank α h) (by decide) (fun _ _ => ce_54) rfl rfl (rest := []) rfl rfl (Nat.le_of_ble_eq_true rfl) ⟨Nat.le_of_ble_eq_true rfl, Nat.le_of_ble_eq_true rfl⟩ dL_law_488 (kc_TI fun q83 => ?_)
        refine V_aload_n hO 2 dL_law_491 rfl rfl ?_
        refine V_callV hO ml_L_59 (C_X7_blank α q83.2) (by decide) (fun _ _ => ce_55) rfl rfl (rest := [.int q83.1]) rfl rfl (Nat.le_of_ble_eq_true rfl) ⟨Nat.le_of_ble_eq_true rfl, Nat.le_of_ble_eq_true rfl⟩ dL_law_492 (kc_TI fun q84 => ?_)
        refine V_icmp_eq hO 943 dL_law_495 (by decide) ?_ ?_
        · exact V_sub [0, 1, 2, 3] rfl (T_L_law_943 hO hR (F_L_law_18 xs L n) ih w3 q84.2 )
        · refine V_iconst hO 0 dL_law_498 (by decide) ?_
          exact V_none rfl
      refine V_case (fun c89 => ?_) (fun n90 => ?_)
      · refine V_tsIn hO (off := 467) 500 dL_law_33 (by rw [c89]; decide) (by rw [c89]; decide) (by rw [c89]; first | done | rfl | decide) (by decide) ?_
        refine V_aload_n hO 1 dL_law_500 rfl rfl ?_
        refine V_callV hO ml_L_60 (C_X6_fault α h) (by decide) (fun _ _ => ce_54) rfl rfl (rest := []) rfl rfl (Nat.le_of_ble_eq_true rfl) ⟨Nat.le_of_ble_eq_true rfl, Nat.le_of_ble_eq_true rfl⟩ dL_law_501 (kc_OI rfl fun v87 => ?_)
        refine V_aload_n hO 2 dL_law_504 rfl rfl ?_
        refine V_callV hO ml_L_63 (C_X7_fault α h) (by decide) (fun _ _ => ce_55) rfl rfl (rest := [.int v87]) rfl rfl (Nat.le_of_ble_eq_true rfl) ⟨Nat.le_of_ble_eq_true rfl, Nat.le_of_ble_eq_true rfl⟩ dL_law_505 (kc_SI rfl fun q88 => ?_)
        refine V_icmp_eq hO 943 dL_law_508 (by decide) ?_ ?_
        · exact V_sub [0, 1, 2, 3] rfl (T_L_law_943 hO hR (F_L_law_18 xs L n) ih w3 q88.2 )
        · refine V_iconst hO 0 dL_law_511 (by decide) ?_
          exact V_none rfl
      refine V_case (fun c93 => ?_) (fun n94 => ?_)
      · refine V_tsIn hO (off := 480) 513 dL_law_33 (by rw [c93]; decide) (by rw [c93]; decide) (by rw [c93]; first | done | rfl | decide) (by decide) ?_
        refine V_aload_n hO 1 dL_law_513 rfl rfl ?_
        refine V_callV hO ml_L_64 (C_X6_days α h) (by decide) (fun _ _ => ce_54) rfl rfl (rest := []) rfl rfl (Nat.le_of_ble_eq_true rfl) ⟨Nat.le_of_ble_eq_true rfl, Nat.le_of_ble_eq_true rfl⟩ dL_law_514 (kc_SI rfl fun q91 => ?_)
        refine V_aload_n hO 2 dL_law_517 rfl rfl ?_
        refine V_callV hO ml_L_67 (C_X7_days α q91.2) (by decide) (fun _ _ => ce_55) rfl rfl (rest := [.int q91.1]) rfl rfl (Nat.le_of_ble_eq_true rfl) ⟨Nat.le_of_ble_eq_true rfl, Nat.le_of_ble_eq_true rfl⟩ dL_law_518 (kc_SI rfl fun q92 => ?_)
        refine V_icmp_eq hO 943 dL_law_521 (by decide) ?_ ?_
        · exact V_sub [0, 1, 2, 3] rfl (T_L_law_943 hO hR (F_L_law_18 xs L n) ih w3 q92.2 )
        · refine V_iconst hO 0 dL_law_524 (by decide) ?_
          exact V_none rfl
      refine V_case (fun c101 => ?_) (fun n102 => ?_)
      · refine V_tsIn hO (off := 493) 526 dL_law_33 (by rw [c101]; decide) (by rw [c101]; decide) (by rw [c101]; first | done | rfl | decide) (by decide) ?_
        refine V_aload_n hO 1 dL_law_526 rfl rfl ?_
        refine V_aload_n hO 0 dL_law_527 rfl rfl ?_
        refine V_iload_n hO 3 dL_law_528 rfl rfl ?_
        refine V_iconst hO 1 dL_law_529 (by decide) ?_
        refine V_iadd hO dL_law_530 ?_
        refine V_chk rfl fun c95 => ?_
        refine V_sld hO hR (inb_in c95) dL_law_531 ?_
        refine V_aload_n hO 0 dL_law_532 rfl rfl ?_
        refine V_iload_n hO 3 dL_law_533 rfl rfl ?_
        refine V_iconst hO 2 dL_law_534 (by decide) ?_
        refine V_iadd hO dL_law_535 ?_
        refine V_chk rfl fun c96 => ?_
        refine V_sld hO hR (inb_in c96) dL_law_536 ?_
        refine V_callV hO ml_L_68 (C_X6_needed α (xs (Int32.toNatClampNeg (w3 + (1 : Int32)))) (xs (Int32.toNatClampNeg (w3 + (2 : Int32)))) h) (by decide) (fun _ _ => ce_54) rfl rfl (rest := []) rfl rfl (Nat.le_of_ble_eq_true rfl) ⟨Nat.le_of_ble_eq_true rfl, Nat.le_of_ble_eq_true rfl⟩ dL_law_537 (kc_OI rfl fun v97 => ?_)
        refine V_aload_n hO 2 dL_law_540 rfl rfl ?_
        refine V_aload_n hO 0 dL_law_541 rfl rfl ?_
        refine V_iload_n hO 3 dL_law_542 rfl rfl ?_
        refine V_iconst hO 1 dL_law_543 (by decide) ?_
        refine V_iadd hO dL_law_544 ?_
        refine V_chk rfl fun c98 => ?_
        refine V_sld hO hR (inb_in c98) dL_law_545 ?_
        refine V_aload_n hO 0 dL_law_546 rfl rfl ?_
        refine V_iload_n hO 3 dL_law_547 rfl rfl ?_
        refine V_iconst hO 2 dL_law_548 (by decide) ?_
        refine V_iadd hO dL_law_549 ?_
        refine V_chk rfl fun c99 => ?_
        refine V_sld hO hR (inb_in c99) dL_law_550 ?_
        refine V_callV hO ml_L_71 (C_X7_needed α (xs (Int32.toNatClampNeg (w3 + (1 : Int32)))) (xs (Int32.toNatClampNeg (w3 + (2 : Int32)))) h) (by decide) (fun _ _ => ce_55) rfl rfl (rest := [.int v97]) rfl rfl (Nat.le_of_ble_eq_true rfl) ⟨Nat.le_of_ble_eq_true rfl, Nat.le_of_ble_eq_true rfl⟩ dL_law_551 (kc_SI rfl fun q100 => ?_)
        refine V_icmp_eq hO 943 dL_law_554 (by decide) ?_ ?_
        · exact V_sub [0, 1, 2, 3] rfl (T_L_law_943 hO hR (F_L_law_18 xs L n) ih w3 q100.2 )
        · refine V_iconst hO 0 dL_law_557 (by decide) ?_
          exact V_none rfl
      refine V_case (fun c107 => ?_) (fun n108 => ?_)
      · refine V_tsIn hO (off := 526) 559 dL_law_33 (by rw [c107]; decide) (by rw [c107]; decide) (by rw [c107]; first | done | rfl | decide) (by decide) ?_
        refine V_aload_n hO 1 dL_law_559 rfl rfl ?_
        refine V_aload_n hO 0 dL_law_560 rfl rfl ?_
        refine V_iload_n hO 3 dL_law_561 rfl rfl ?_
        refine V_iconst hO 1 dL_law_562 (by decide) ?_
        refine V_iadd hO dL_law_563 ?_
        refine V_chk rfl fun c103 => ?_
        refine V_sld hO hR (inb_in c103) dL_law_564 ?_
        refine V_callV hO ml_L_72 (C_X6_bears α (xs (Int32.toNatClampNeg (w3 + (1 : Int32)))) h) (by decide) (fun _ _ => ce_54) rfl rfl (rest := []) rfl rfl (Nat.le_of_ble_eq_true rfl) ⟨Nat.le_of_ble_eq_true rfl, Nat.le_of_ble_eq_true rfl⟩ dL_law_565 (kc_OI rfl fun v104 => ?_)
        refine V_aload_n hO 2 dL_law_568 rfl rfl ?_
        refine V_aload_n hO 0 dL_law_569 rfl rfl ?_
        refine V_iload_n hO 3 dL_law_570 rfl rfl ?_
        refine V_iconst hO 1 dL_law_571 (by decide) ?_
        refine V_iadd hO dL_law_572 ?_
        refine V_chk rfl fun c105 => ?_
        refine V_sld hO hR (inb_in c105) dL_law_573 ?_
        refine V_callV hO ml_L_75 (C_X7_bears α (xs (Int32.toNatClampNeg (w3 + (1 : Int32)))) h) (by decide) (fun _ _ => ce_55) rfl rfl (rest := [.int v104]) rfl rfl (Nat.le_of_ble_eq_true rfl) ⟨Nat.le_of_ble_eq_true rfl, Nat.le_of_ble_eq_true rfl⟩ dL_law_574 (kc_SI rfl fun q106 => ?_)
        refine V_icmp_eq hO 943 dL_law_577 (by decide) ?_ ?_
        · exact V_sub [0, 1, 2, 3] rfl (T_L_law_943 hO hR (F_L_law_18 xs L n) ih w3 q106.2 )
        · refine V_iconst hO 0 dL_law_580 (by decide) ?_
          exact V_none rfl
      refine V_case (fun c112 => ?_) (fun n113 => ?_)
      · refine V_tsIn hO (off := 549) 582 dL_law_33 (by rw [c112]; decide) (by rw [c112]; decide) (by rw [c112]; first | done | rfl | decide) (by decide) ?_
        refine V_aload_n hO 1 dL_law_582 rfl rfl ?_
        refine V_aload_n hO 0 dL_law_583 rfl rfl ?_
        refine V_iload_n hO 3 dL_law_584 rfl rfl ?_
        refine V_iconst hO 1 dL_law_585 (by decide) ?_
        refine V_iadd hO dL_law_586 ?_
        refine V_chk rfl fun c109 => ?_
        refine V_sld hO hR (inb_in c109) dL_law_587 ?_
        refine V_aload_n hO 0 dL_law_588 rfl rfl ?_
        refine V_iload_n hO 3 dL_law_589 rfl rfl ?_
        refine V_iconst hO 2 dL_law_590 (by decide) ?_
        refine V_iadd hO dL_law_591 ?_
        refine V_chk rfl fun c110 => ?_
        refine V_sld hO hR (inb_in c110) dL_law_592 ?_
        refine V_aload_n hO 0 dL_law_593 rfl rfl ?_
        refine V_iload_n hO 3 dL_law_594 rfl rfl ?_
        refine V_iconst hO 3 dL_law_595 (by decide) ?_
        refine V_iadd hO dL_law_596 ?_
        refine V_chk rfl fun c111 => ?_
        refine V_sld hO hR (inb_in c111) dL_law_597 ?_
        refine V_if_eq hO 605 dL_law_598 (by decide) ?_ ?_
        · refine V_iconst hO 0 dL_law_605 (by decide) ?_
          exact V_sub [0, 1, 2, 3] rfl (T_L_law_606 hO hR (F_L_law_18 xs L n) ih w3 false (xs (Int32.toNatClampNeg (w3 + (2 : Int32)))) (xs (Int32.toNatClampNeg (w3 + (1 : Int32)))) h )
        · refine V_iconst hO 1 dL_law_601 (by decide) ?_
          refine V_goto hO 606 dL_law_602 (by decide) ?_
          exact V_sub [0, 1, 2, 3] rfl (T_L_law_606 hO hR (F_L_law_18 xs L n) ih w3 true (xs (Int32.toNatClampNeg (w3 + (2 : Int32)))) (xs (Int32.toNatClampNeg (w3 + (1 : Int32)))) h )
      refine V_case (fun c118 => ?_) (fun n119 => ?_)
      · refine V_tsIn hO (off := 608) 641 dL_law_33 (by rw [c118]; decide) (by rw [c118]; decide) (by rw [c118]; first | done | rfl | decide) (by decide) ?_
        refine V_aload_n hO 1 dL_law_641 rfl rfl ?_
        refine V_aload_n hO 0 dL_law_642 rfl rfl ?_
        refine V_iload_n hO 3 dL_law_643 rfl rfl ?_
        refine V_iconst hO 1 dL_law_644 (by decide) ?_
        refine V_iadd hO dL_law_645 ?_
        refine V_chk rfl fun c114 => ?_
        refine V_sld hO hR (inb_in c114) dL_law_646 ?_
        refine V_callV hO ml_L_81 (C_X6_rest α (xs (Int32.toNatClampNeg (w3 + (1 : Int32)))) h) (by decide) (fun _ _ => ce_54) rfl rfl (rest := []) rfl rfl (Nat.le_of_ble_eq_true rfl) ⟨Nat.le_of_ble_eq_true rfl, Nat.le_of_ble_eq_true rfl⟩ dL_law_647 (kc_OI rfl fun v115 => ?_)
        refine V_aload_n hO 2 dL_law_650 rfl rfl ?_
        refine V_aload_n hO 0 dL_law_651 rfl rfl ?_
        refine V_iload_n hO 3 dL_law_652 rfl rfl ?_
        refine V_iconst hO 1 dL_law_653 (by decide) ?_
        refine V_iadd hO dL_law_654 ?_
        refine V_chk rfl fun c116 => ?_
        refine V_sld hO hR (inb_in c116) dL_law_655 ?_
        refine V_callV hO ml_L_84 (C_X7_rest α (xs (Int32.toNatClampNeg (w3 + (1 : Int32)))) h) (by decide) (fun _ _ => ce_55) rfl rfl (rest := [.int v115]) rfl rfl (Nat.le_of_ble_eq_true rfl) ⟨Nat.le_of_ble_eq_true rfl, Nat.le_of_ble_eq_true rfl⟩ dL_law_656 (kc_OI rfl fun v117 => ?_)
        refine V_icmp_eq hO 943 dL_law_659 (by decide) ?_ ?_
        · exact V_sub [0, 1, 2, 3] rfl (T_L_law_943 hO hR (F_L_law_18 xs L n) ih w3 h )
        · refine V_iconst hO 0 dL_law_662 (by decide) ?_
          exact V_none rfl
      refine V_case (fun c128 => ?_) (fun n129 => ?_)
      · refine V_tsIn hO (off := 631) 664 dL_law_33 (by rw [c128]; decide) (by rw [c128]; decide) (by rw [c128]; first | done | rfl | decide) (by decide) ?_
        refine V_aload_n hO 1 dL_law_664 rfl rfl ?_
        refine V_aload_n hO 0 dL_law_665 rfl rfl ?_
        refine V_iload_n hO 3 dL_law_666 rfl rfl ?_
        refine V_iconst hO 1 dL_law_667 (by decide) ?_
        refine V_iadd hO dL_law_668 ?_
        refine V_chk rfl fun c120 => ?_
        refine V_sld hO hR (inb_in c120) dL_law_669 ?_
        refine V_aload_n hO 0 dL_law_670 rfl rfl ?_
        refine V_iload_n hO 3 dL_law_671 rfl rfl ?_
        refine V_iconst hO 2 dL_law_672 (by decide) ?_
        refine V_iadd hO dL_law_673 ?_
        refine V_chk rfl fun c121 => ?_
        refine V_sld hO hR (inb_in c121) dL_law_674 ?_
        refine V_aload_n hO 0 dL_law_675 rfl rfl ?_
        refine V_iload_n hO 3 dL_law_676 rfl rfl ?_
        refine V_iconst hO 3 dL_law_677 (by decide) ?_
        refine V_iadd hO dL_law_678 ?_
        refine V_chk rfl fun c122 => ?_
        refine V_sld hO hR (inb_in c122) dL_law_679 ?_
        refine V_callV hO ml_L_85 (C_X6_sledges α (xs (Int32.toNatClampNeg (w3 + (1 : Int32)))) (xs (Int32.toNatClampNeg (w3 + (2 : Int32)))) (xs (Int32.toNatClampNeg (w3 + (3 : Int32)))) h) (by decide) (fun _ _ => ce_54) rfl rfl (rest := []) rfl rfl (Nat.le_of_ble_eq_true rfl) ⟨Nat.le_of_ble_eq_true rfl, Nat.le_of_ble_eq_true rfl⟩ dL_law_680 (kc_SI rfl fun q123 => ?_)
        refine V_aload_n hO 2 dL_law_683 rfl rfl ?_
        refine V_aload_n hO 0 dL_law_684 rfl rfl ?_
        refine V_iload_n hO 3 dL_law_685 rfl rfl ?_
        refine V_iconst hO 1 dL_law_686 (by decide) ?_
        refine V_iadd hO dL_law_687 ?_
        refine V_chk rfl fun c124 => ?_
        refine V_sld hO hR (inb_in c124) dL_law_688 ?_
        refine V_aload_n hO 0 dL_law_689 rfl rfl ?_
        refine V_iload_n hO 3 dL_law_690 rfl rfl ?_
        refine V_iconst hO 2 dL_law_691 (by decide) ?_
        refine V_iadd hO dL_law_692 ?_
        refine V_chk rfl fun c125 => ?_
        refine V_sld hO hR (inb_in c125) dL_law_693 ?_
        refine V_aload_n hO 0 dL_law_694 rfl rfl ?_
        refine V_iload_n hO 3 dL_law_695 rfl rfl ?_
        refine V_iconst hO 3 dL_law_696 (by decide) ?_
        refine V_iadd hO dL_law_697 ?_
        refine V_chk rfl fun c126 => ?_
        refine V_sld hO hR (inb_in c126) dL_law_698 ?_
        refine V_callV hO ml_L_89 (C_X7_sledges α (xs (Int32.toNatClampNeg (w3 + (1 : Int32)))) (xs (Int32.toNatClampNeg (w3 + (2 : Int32)))) (xs (Int32.toNatClampNeg (w3 + (3 : Int32)))) q123.2) (by decide) (fun _ _ => ce_55) rfl rfl (rest := [.int q123.1]) rfl rfl (Nat.le_of_ble_eq_true rfl) ⟨Nat.le_of_ble_eq_true rfl, Nat.le_of_ble_eq_true rfl⟩ dL_law_699 (kc_SI rfl fun q127 => ?_)
        refine V_icmp_eq hO 943 dL_law_702 (by decide) ?_ ?_
        · exact V_sub [0, 1, 2, 3] rfl (T_L_law_943 hO hR (F_L_law_18 xs L n) ih w3 q127.2 )
        · refine V_iconst hO 0 dL_law_705 (by decide) ?_
          exact V_none rfl
      refine V_case (fun c134 => ?_) (fun n135 => ?_)
      · refine V_tsIn hO (off := 674) 707 dL_law_33 (by rw [c134]; decide) (by rw [c134]; decide) (by rw [c134]; first | done | rfl | decide) (by decide) ?_
        refine V_aload_n hO 1 dL_law_707 rfl rfl ?_
        refine V_aload_n hO 0 dL_law_708 rfl rfl ?_
        refine V_iload_n hO 3 dL_law_709 rfl rfl ?_
        refine V_iconst hO 1 dL_law_710 (by decide) ?_
        refine V_iadd hO dL_law_711 ?_
        refine V_chk rfl fun c130 => ?_
        refine V_sld hO hR (inb_in c130) dL_law_712 ?_
        refine V_callV hO ml_L_90 (C_X6_settled α (xs (Int32.toNatClampNeg (w3 + (1 : Int32)))) h) (by decide) (fun _ _ => ce_54) rfl rfl (rest := []) rfl rfl (Nat.le_of_ble_eq_true rfl) ⟨Nat.le_of_ble_eq_true rfl, Nat.le_of_ble_eq_true rfl⟩ dL_law_713 (kc_SI rfl fun q131 => ?_)
        refine V_aload_n hO 2 dL_law_716 rfl rfl ?_
        refine V_aload_n hO 0 dL_law_717 rfl rfl ?_
        refine V_iload_n hO 3 dL_law_718 rfl rfl ?_
        refine V_iconst hO 1 dL_law_719 (by decide) ?_
        refine V_iadd hO dL_law_720 ?_
        refine V_chk rfl fun c132 => ?_
        refine V_sld hO hR (inb_in c132) dL_law_721 ?_
        refine V_callV hO ml_L_93 (C_X7_settled α (xs (Int32.toNatClampNeg (w3 + (1 : Int32)))) q131.2) (by decide) (fun _ _ => ce_55) rfl rfl (rest := [.int q131.1]) rfl rfl (Nat.le_of_ble_eq_true rfl) ⟨Nat.le_of_ble_eq_true rfl, Nat.le_of_ble_eq_true rfl⟩ dL_law_722 (kc_SI rfl fun q133 => ?_)
        refine V_icmp_eq hO 943 dL_law_725 (by decide) ?_ ?_
        · exact V_sub [0, 1, 2, 3] rfl (T_L_law_943 hO hR (F_L_law_18 xs L n) ih w3 q133.2 )
        · refine V_iconst hO 0 dL_law_728 (by decide) ?_
          exact V_none rfl
      refine V_case (fun c144 => ?_) (fun n145 => ?_)
      · refine V_tsIn hO (off := 697) 730 dL_law_33 (by rw [c144]; decide) (by rw [c144]; decide) (by rw [c144]; first | done | rfl | decide) (by decide) ?_
        refine V_aload_n hO 1 dL_law_730 rfl rfl ?_
        refine V_aload_n hO 0 dL_law_731 rfl rfl ?_
        refine V_iload_n hO 3 dL_law_732 rfl rfl ?_
        refine V_iconst hO 1 dL_law_733 (by decide) ?_
        refine V_iadd hO dL_law_734 ?_
        refine V_chk rfl fun c136 => ?_
        refine V_sld hO hR (inb_in c136) dL_law_735 ?_
        refine V_aload_n hO 0 dL_law_736 rfl rfl ?_
        refine V_iload_n hO 3 dL_law_737 rfl rfl ?_
        refine V_iconst hO 2 dL_law_738 (by decide) ?_
        refine V_iadd hO dL_law_739 ?_
        refine V_chk rfl fun c137 => ?_
        refine V_sld hO hR (inb_in c137) dL_law_740 ?_
        refine V_aload_n hO 0 dL_law_741 rfl rfl ?_
        refine V_iload_n hO 3 dL_law_742 rfl rfl ?_
        refine V_iconst hO 3 dL_law_743 (by decide) ?_
        refine V_iadd hO dL_law_744 ?_
        refine V_chk rfl fun c138 => ?_
        refine V_sld hO hR (inb_in c138) dL_law_745 ?_
        refine V_callV hO ml_L_94 (C_X6_skate α (xs (Int32.toNatClampNeg (w3 + (1 : Int32)))) (xs (Int32.toNatClampNeg (w3 + (2 : Int32)))) (xs (Int32.toNatClampNeg (w3 + (3 : Int32)))) h) (by decide) (fun _ _ => ce_54) rfl rfl (rest := []) rfl rfl (Nat.le_of_ble_eq_true rfl) ⟨Nat.le_of_ble_eq_true rfl, Nat.le_of_ble_eq_true rfl⟩ dL_law_746 (kc_SI rfl fun q139 => ?_)
        refine V_aload_n hO 2 dL_law_749 rfl rfl ?_
        refine V_aload_n hO 0 dL_law_750 rfl rfl ?_
        refine V_iload_n hO 3 dL_law_751 rfl rfl ?_
        refine V_iconst hO 1 dL_law_752 (by decide) ?_
        refine V_iadd hO dL_law_753 ?_
        refine V_chk rfl fun c140 => ?_
        refine V_sld hO hR (inb_in c140) dL_law_754 ?_
        refine V_aload_n hO 0 dL_law_755 rfl rfl ?_
        refine V_iload_n hO 3 dL_law_756 rfl rfl ?_
        refine V_iconst hO 2 dL_law_757 (by decide) ?_
        refine V_iadd hO dL_law_758 ?_
        refine V_chk rfl fun c141 => ?_
        refine V_sld hO hR (inb_in c141) dL_law_759 ?_
        refine V_aload_n hO 0 dL_law_760 rfl rfl ?_
        refine V_iload_n hO 3 dL_law_761 rfl rfl ?_
        refine V_iconst hO 3 dL_law_762 (by decide) ?_
        refine V_iadd hO dL_law_763 ?_
        refine V_chk rfl fun c142 => ?_
        refine V_sld hO hR (inb_in c142) dL_law_764 ?_
        refine V_callV hO ml_L_97 (C_X7_skate α (xs (Int32.toNatClampNeg (w3 + (1 : Int32)))) (xs (Int32.toNatClampNeg (w3 + (2 : Int32)))) (xs (Int32.toNatClampNeg (w3 + (3 : Int32)))) q139.2) (by decide) (fun _ _ => ce_55) rfl rfl (rest := [.int q139.1]) rfl rfl (Nat.le_of_ble_eq_true rfl) ⟨Nat.le_of_ble_eq_true rfl, Nat.le_of_ble_eq_true rfl⟩ dL_law_765 (kc_SI rfl fun q143 => ?_)
        refine V_icmp_eq hO 943 dL_law_768 (by decide) ?_ ?_
        · exact V_sub [0, 1, 2, 3] rfl (T_L_law_943 hO hR (F_L_law_18 xs L n) ih w3 q143.2 )
        · refine V_iconst hO 0 dL_law_771 (by decide) ?_
          exact V_none rfl
      refine V_case (fun c158 => ?_) (fun n159 => ?_)
      · refine V_tsIn hO (off := 740) 773 dL_law_33 (by rw [c158]; decide) (by rw [c158]; decide) (by rw [c158]; first | done | rfl | decide) (by decide) ?_
        refine V_aload_n hO 1 dL_law_773 rfl rfl ?_
        refine V_aload_n hO 0 dL_law_774 rfl rfl ?_
        refine V_iload_n hO 3 dL_law_775 rfl rfl ?_
        refine V_iconst hO 1 dL_law_776 (by decide) ?_
        refine V_iadd hO dL_law_777 ?_
        refine V_chk rfl fun c146 => ?_
        refine V_sld hO hR (inb_in c146) dL_law_778 ?_
        refine V_aload_n hO 0 dL_law_779 rfl rfl ?_
        refine V_iload_n hO 3 dL_law_780 rfl rfl ?_
        refine V_iconst hO 2 dL_law_781 (by decide) ?_
        refine V_iadd hO dL_law_782 ?_
        refine V_chk rfl fun c147 => ?_
        refine V_sld hO hR (inb_in c147) dL_law_783 ?_
        refine V_aload_n hO 0 dL_law_784 rfl rfl ?_
        refine V_iload_n hO 3 dL_law_785 rfl rfl ?_
        refine V_iconst hO 3 dL_law_786 (by decide) ?_
        refine V_iadd hO dL_law_787 ?_
        refine V_chk rfl fun c148 => ?_
        refine V_sld hO hR (inb_in c148) dL_law_788 ?_
        refine V_aload_n hO 0 dL_law_789 rfl rfl ?_
        refine V_iload_n hO 3 dL_law_790 rfl rfl ?_
        refine V_iconst hO 4 dL_law_791 (by decide) ?_
        refine V_iadd hO dL_law_792 ?_
        refine V_chk rfl fun c149 => ?_
        refine V_sld hO hR (inb_in c149) dL_law_793 ?_
        refine V_aload_n hO 0 dL_law_794 rfl rfl ?_
        refine V_iload_n hO 3 dL_law_795 rfl rfl ?_
        refine V_iconst hO 5 dL_law_796 (by decide) ?_
        refine V_iadd hO dL_law_797 ?_
        refine V_chk rfl fun c150 => ?_
        refine V_sld hO hR (inb_in c150) dL_law_798 ?_
        refine V_callV hO ml_L_98 (C_X6_odds α (xs (Int32.toNatClampNeg (w3 + (1 : Int32)))) (xs (Int32.toNatClampNeg (w3 + (2 : Int32)))) (xs (Int32.toNatClampNeg (w3 + (3 : Int32)))) (xs (Int32.toNatClampNeg (w3 + (4 : Int32)))) (xs (Int32.toNatClampNeg (w3 + (5 : Int32)))) h) (by decide) (fun _ _ => ce_54) rfl rfl (rest := []) rfl rfl (Nat.le_of_ble_eq_true rfl) ⟨Nat.le_of_ble_eq_true rfl, Nat.le_of_ble_eq_true rfl⟩ dL_law_799 (kc_OJ rfl fun v151 => ?_)
        refine V_aload_n hO 2 dL_law_802 rfl rfl ?_
        refine V_aload_n hO 0 dL_law_803 rfl rfl ?_
        refine V_iload_n hO 3 dL_law_804 rfl rfl ?_
        refine V_iconst hO 1 dL_law_805 (by decide) ?_
        refine V_iadd hO dL_law_806 ?_
        refine V_chk rfl fun c152 => ?_
        refine V_sld hO hR (inb_in c152) dL_law_807 ?_
        refine V_aload_n hO 0 dL_law_808 rfl rfl ?_
        refine V_iload_n hO 3 dL_law_809 rfl rfl ?_
        refine V_iconst hO 2 dL_law_810 (by decide) ?_
        refine V_iadd hO dL_law_811 ?_
        refine V_chk rfl fun c153 => ?_
        refine V_sld hO hR (inb_in c153) dL_law_812 ?_
        refine V_aload_n hO 0 dL_law_813 rfl rfl ?_
        refine V_iload_n hO 3 dL_law_814 rfl rfl ?_
        refine V_iconst hO 3 dL_law_815 (by decide) ?_
        refine V_iadd hO dL_law_816 ?_
        refine V_chk rfl fun c154 => ?_
        refine V_sld hO hR (inb_in c154) dL_law_817 ?_
        refine V_aload_n hO 0 dL_law_818 rfl rfl ?_
        refine V_iload_n hO 3 dL_law_819 rfl rfl ?_
        refine V_iconst hO 4 dL_law_820 (by decide) ?_
        refine V_iadd hO dL_law_821 ?_
        refine V_chk rfl fun c155 => ?_
        refine V_sld hO hR (inb_in c155) dL_law_822 ?_
        refine V_aload_n hO 0 dL_law_823 rfl rfl ?_
        refine V_iload_n hO 3 dL_law_824 rfl rfl ?_
        refine V_iconst hO 5 dL_law_825 (by decide) ?_
        refine V_iadd hO dL_law_826 ?_
        refine V_chk rfl fun c156 => ?_
        refine V_sld hO hR (inb_in c156) dL_law_827 ?_
        refine V_callV hO ml_L_102 (C_X7_odds α (xs (Int32.toNatClampNeg (w3 + (1 : Int32)))) (xs (Int32.toNatClampNeg (w3 + (2 : Int32)))) (xs (Int32.toNatClampNeg (w3 + (3 : Int32)))) (xs (Int32.toNatClampNeg (w3 + (4 : Int32)))) (xs (Int32.toNatClampNeg (w3 + (5 : Int32)))) h) (by decide) (fun _ _ => ce_55) rfl rfl (rest := [.long v151]) rfl rfl (Nat.le_of_ble_eq_true rfl) ⟨Nat.le_of_ble_eq_true rfl, Nat.le_of_ble_eq_true rfl⟩ dL_law_828 (kc_OJ rfl fun v157 => ?_)
        refine V_lcmp_eq hO 943 dL_law_831 dL_law_832 (by decide) ?_ ?_
        · exact V_sub [0, 1, 2, 3] rfl (T_L_law_943 hO hR (F_L_law_18 xs L n) ih w3 h )
        · refine V_iconst hO 0 dL_law_835 (by decide) ?_
          exact V_none rfl
      refine V_case (fun c168 => ?_) (fun n169 => ?_)
      · refine V_tsIn hO (off := 804) 837 dL_law_33 (by rw [c168]; decide) (by rw [c168]; decide) (by rw [c168]; first | done | rfl | decide) (by decide) ?_
        refine V_aload_n hO 1 dL_law_837 rfl rfl ?_
        refine V_aload_n hO 0 dL_law_838 rfl rfl ?_
        refine V_iload_n hO 3 dL_law_839 rfl rfl ?_
        refine V_iconst hO 1 dL_law_840 (by decide) ?_
        refine V_iadd hO dL_law_841 ?_
        refine V_chk rfl fun c160 => ?_
        refine V_sld hO hR (inb_in c160) dL_law_842 ?_
        refine V_aload_n hO 0 dL_law_843 rfl rfl ?_
        refine V_iload_n hO 3 dL_law_844 rfl rfl ?_
        refine V_iconst hO 2 dL_law_845 (by decide) ?_
        refine V_iadd hO dL_law_846 ?_
        refine V_chk rfl fun c161 => ?_
        refine V_sld hO hR (inb_in c161) dL_law_847 ?_
        refine V_aload_n hO 0 dL_law_848 rfl rfl ?_
        refine V_iload_n hO 3 dL_law_849 rfl rfl ?_
        refine V_iconst hO 3 dL_law_850 (by decide) ?_
        refine V_iadd hO dL_law_851 ?_
        refine V_chk rfl fun c162 => ?_
        refine V_sld hO hR (inb_in c162) dL_law_852 ?_
        refine V_callV hO ml_L_103 (C_X6_winter α (xs (Int32.toNatClampNeg (w3 + (1 : Int32)))) (xs (Int32.toNatClampNeg (w3 + (2 : Int32)))) (xs (Int32.toNatClampNeg (w3 + (3 : Int32)))) h) (by decide) (fun _ _ => ce_54) rfl rfl (rest := []) rfl rfl (Nat.le_of_ble_eq_true rfl) ⟨Nat.le_of_ble_eq_true rfl, Nat.le_of_ble_eq_true rfl⟩ dL_law_853 (kc_SI rfl fun q163 => ?_)
        refine V_aload_n hO 2 dL_law_856 rfl rfl ?_
        refine V_aload_n hO 0 dL_law_857 rfl rfl ?_
        refine V_iload_n hO 3 dL_law_858 rfl rfl ?_
        refine V_iconst hO 1 dL_law_859 (by decide) ?_
        refine V_iadd hO dL_law_860 ?_
        refine V_chk rfl fun c164 => ?_
        refine V_sld hO hR (inb_in c164) dL_law_861 ?_
        refine V_aload_n hO 0 dL_law_862 rfl rfl ?_
        refine V_iload_n hO 3 dL_law_863 rfl rfl ?_
        refine V_iconst hO 2 dL_law_864 (by decide) ?_
        refine V_iadd hO dL_law_865 ?_
        refine V_chk rfl fun c165 => ?_
        refine V_sld hO hR (inb_in c165) dL_law_866 ?_
        refine V_aload_n hO 0 dL_law_867 rfl rfl ?_
        refine V_iload_n hO 3 dL_law_868 rfl rfl ?_
        refine V_iconst hO 3 dL_law_869 (by decide) ?_
        refine V_iadd hO dL_law_870 ?_
        refine V_chk rfl fun c166 => ?_
        refine V_sld hO hR (inb_in c166) dL_law_871 ?_
        refine V_callV hO ml_L_106 (C_X7_winter α (xs (Int32.toNatClampNeg (w3 + (1 : Int32)))) (xs (Int32.toNatClampNeg (w3 + (2 : Int32)))) (xs (Int32.toNatClampNeg (w3 + (3 : Int32)))) q163.2) (by decide) (fun _ _ => ce_55) rfl rfl (rest := [.int q163.1]) rfl rfl (Nat.le_of_ble_eq_true rfl) ⟨Nat.le_of_ble_eq_true rfl, Nat.le_of_ble_eq_true rfl⟩ dL_law_872 (kc_SI rfl fun q167 => ?_)
        refine V_icmp_eq hO 943 dL_law_875 (by decide) ?_ ?_
        · exact V_sub [0, 1, 2, 3] rfl (T_L_law_943 hO hR (F_L_law_18 xs L n) ih w3 q167.2 )
        · refine V_iconst hO 0 dL_law_878 (by decide) ?_
          exact V_none rfl
      refine V_case (fun c172 => ?_) (fun n173 => ?_)
      · refine V_tsIn hO (off := 847) 880 dL_law_33 (by rw [c172]; decide) (by rw [c172]; decide) (by rw [c172]; first | done | rfl | decide) (by decide) ?_
        refine V_aload_n hO 1 dL_law_880 rfl rfl ?_
        refine V_callV hO ml_L_107 (C_X6_image α h) (by decide) (fun _ _ => ce_54) rfl rfl (rest := []) rfl rfl (Nat.le_of_ble_eq_true rfl) ⟨Nat.le_of_ble_eq_true rfl, Nat.le_of_ble_eq_true rfl⟩ dL_law_881 (kc_SI rfl fun q170 => ?_)
        refine V_aload_n hO 2 dL_law_884 rfl rfl ?_
        refine V_callV hO ml_L_110 (C_X7_image α q170.2) (by decide) (fun _ _ => ce_55) rfl rfl (rest := [.int q170.1]) rfl rfl (Nat.le_of_ble_eq_true rfl) ⟨Nat.le_of_ble_eq_true rfl, Nat.le_of_ble_eq_true rfl⟩ dL_law_885 (kc_SI rfl fun q171 => ?_)
        refine V_icmp_eq hO 943 dL_law_888 (by decide) ?_ ?_
        · exact V_sub [0, 1, 2, 3] rfl (T_L_law_943 hO hR (F_L_law_18 xs L n) ih w3 q171.2 )
        · refine V_iconst hO 0 dL_law_891 (by decide) ?_
          exact V_none rfl
      refine V_case (fun c176 => ?_) (fun n177 => ?_)
      · refine V_tsIn hO (off := 860) 893 dL_law_33 (by rw [c176]; decide) (by rw [c176]; decide) (by rw [c176]; first | done | rfl | decide) (by decide) ?_
        refine V_aload_n hO 1 dL_law_893 rfl rfl ?_
        refine V_callV hO ml_L_111 (C_X6_restore α h) (by decide) (fun _ _ => ce_54) rfl rfl (rest := []) rfl rfl (Nat.le_of_ble_eq_true rfl) ⟨Nat.le_of_ble_eq_true rfl, Nat.le_of_ble_eq_true rfl⟩ dL_law_894 (kc_SI rfl fun q174 => ?_)
        refine V_aload_n hO 2 dL_law_897 rfl rfl ?_
        refine V_callV hO ml_L_114 (C_X7_restore α q174.2) (by decide) (fun _ _ => ce_55) rfl rfl (rest := [.int q174.1]) rfl rfl (Nat.le_of_ble_eq_true rfl) ⟨Nat.le_of_ble_eq_true rfl, Nat.le_of_ble_eq_true rfl⟩ dL_law_898 (kc_SI rfl fun q175 => ?_)
        refine V_icmp_eq hO 943 dL_law_901 (by decide) ?_ ?_
        · exact V_sub [0, 1, 2, 3] rfl (T_L_law_943 hO hR (F_L_law_18 xs L n) ih w3 q175.2 )
        · refine V_iconst hO 0 dL_law_904 (by decide) ?_
          exact V_none rfl
      refine V_case (fun c182 => ?_) (fun n183 => ?_)
      · refine V_tsIn hO (off := 873) 906 dL_law_33 (by rw [c182]; decide) (by rw [c182]; decide) (by rw [c182]; first | done | rfl | decide) (by decide) ?_
        refine V_aload_n hO 1 dL_law_906 rfl rfl ?_
        refine V_aload_n hO 0 dL_law_907 rfl rfl ?_
        refine V_iload_n hO 3 dL_law_908 rfl rfl ?_
        refine V_iconst hO 1 dL_law_909 (by decide) ?_
        refine V_iadd hO dL_law_910 ?_
        refine V_chk rfl fun c178 => ?_
        refine V_sld hO hR (inb_in c178) dL_law_911 ?_
        refine V_callV hO ml_L_115 (C_X6_count α (xs (Int32.toNatClampNeg (w3 + (1 : Int32)))) h) (by decide) (fun _ _ => ce_54) rfl rfl (rest := []) rfl rfl (Nat.le_of_ble_eq_true rfl) ⟨Nat.le_of_ble_eq_true rfl, Nat.le_of_ble_eq_true rfl⟩ dL_law_912 (kc_OI rfl fun v179 => ?_)
        refine V_aload_n hO 2 dL_law_915 rfl rfl ?_
        refine V_aload_n hO 0 dL_law_916 rfl rfl ?_
        refine V_iload_n hO 3 dL_law_917 rfl rfl ?_
        refine V_iconst hO 1 dL_law_918 (by decide) ?_
        refine V_iadd hO dL_law_919 ?_
        refine V_chk rfl fun c180 => ?_
        refine V_sld hO hR (inb_in c180) dL_law_920 ?_
        refine V_callV hO ml_L_118 (C_X7_count α (xs (Int32.toNatClampNeg (w3 + (1 : Int32)))) h) (by decide) (fun _ _ => ce_55) rfl rfl (rest := [.int v179]) rfl rfl (Nat.le_of_ble_eq_true rfl) ⟨Nat.le_of_ble_eq_true rfl, Nat.le_of_ble_eq_true rfl⟩ dL_law_921 (kc_OI rfl fun v181 => ?_)
        refine V_icmp_eq hO 943 dL_law_924 (by decide) ?_ ?_
        · exact V_sub [0, 1, 2, 3] rfl (T_L_law_943 hO hR (F_L_law_18 xs L n) ih w3 h )
        · refine V_iconst hO 0 dL_law_927 (by decide) ?_
          exact V_none rfl
      refine V_case (fun c186 => ?_) (fun n187 => ?_)
      · refine V_tsIn hO (off := 896) 929 dL_law_33 (by rw [c186]; decide) (by rw [c186]; decide) (by rw [c186]; first | done | rfl | decide) (by decide) ?_
        refine V_aload_n hO 1 dL_law_929 rfl rfl ?_
        refine V_callV hO ml_L_119 (C_X6_digest α h) (by decide) (fun _ _ => ce_54) rfl rfl (rest := []) rfl rfl (Nat.le_of_ble_eq_true rfl) ⟨Nat.le_of_ble_eq_true rfl, Nat.le_of_ble_eq_true rfl⟩ dL_law_930 (kc_SJ rfl fun q184 => ?_)
        refine V_aload_n hO 2 dL_law_933 rfl rfl ?_
        refine V_callV hO ml_L_123 (C_X7_digest α q184.2) (by decide) (fun _ _ => ce_55) rfl rfl (rest := [.long q184.1]) rfl rfl (Nat.le_of_ble_eq_true rfl) ⟨Nat.le_of_ble_eq_true rfl, Nat.le_of_ble_eq_true rfl⟩ dL_law_934 (kc_SJ rfl fun q185 => ?_)
        refine V_lcmp_eq hO 943 dL_law_937 dL_law_938 (by decide) ?_ ?_
        · exact V_sub [0, 1, 2, 3] rfl (T_L_law_943 hO hR (F_L_law_18 xs L n) ih w3 q185.2 )
        · refine V_iconst hO 0 dL_law_941 (by decide) ?_
          exact V_none rfl
      refine V_tsOut hO 943 dL_law_33 (by have h9 := ts_out 25 (p9_ts (lt_s (lt_s (lt_s (lt_s (lt_s (lt_s (lt_s (lt_s (lt_s (lt_s (lt_s (lt_s (lt_s (lt_s (lt_s (lt_s (lt_s (lt_s (lt_s (lt_s (lt_s (lt_s (lt_s (lt_s (lt_s lt_0 n14) n22) n30) n36) n52) n60) n68) n74) n82) n86) n90) n94) n102) n108) n113) n119) n129) n135) n145) n159) n169) n173) n177) n183) n187)) (by decide); omega) (by decide) ?_
      exact V_sub [0, 1, 2, 3] rfl (T_L_law_943 hO hR (F_L_law_18 xs L n) ih w3 h )
