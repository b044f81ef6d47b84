/-! What each method does to the state, read off its instructions by a program (wip/p29/gen.py). -/
def mX4_totalCount (σ : St) : Option (Int32 × St) :=
  some ((σ 28 0), σ)
def mX5_fill_L2 (k : Nat) : Nat → Int32 → Int32 → St → Option (St)
 | 0, _, _, _ => none
 | n + 1, x1, x2, σ =>
  if (nI (rl k)) ≤ x2 then
   some σ
  else
   ix x2 (rl k) (lts (ups σ k (Int32.toNatClampNeg x2) x1) (fun σ3 => (mX5_fill_L2 k n) x1 (x2 + 1) σ3))
def mX5_fill (k : Nat) (x1 : Int32) (σ : St) : Option (St) :=
  mX5_fill_L2 k fu x1 0 σ
def mX5_get (k : Nat) (x1 : Int32) (σ : St) : Option (Int32 × St) :=
  if x1 < 0 then
   some (0, σ)
  else
   if (nI (rl k)) ≤ x1 then
    some (0, σ)
   else
    ix x1 (rl k) (some ((σ k (Int32.toNatClampNeg x1)), σ))
def mX5_copyFrom_L2 (k : Nat) (k2 : Nat) : Nat → Int32 → St → Option (St)
 | 0, _, _ => none
 | n + 1, x2, σ =>
  if (nI (rl k)) ≤ x2 then
   some σ
  else
   bnd (mX5_get k2 x2 σ) (fun r4 σ3 => ix x2 (rl k) (lts (ups σ3 k (Int32.toNatClampNeg x2) r4) (fun σ6 => (mX5_copyFrom_L2 k k2 n) (x2 + 1) σ6)))
def mX5_copyFrom (k : Nat) (k2 : Nat) (σ : St) : Option (St) :=
  mX5_copyFrom_L2 k k2 fu 0 σ
def mX4_inOrder (x1 : Int32) (σ : St) : Option (Int32 × St) :=
  bnd (mX5_get 5 x1 σ) (fun r3 σ2 => some (r3, σ2))
def mX2_has (g : Nat) (x1 x2 : Int32) (σ : St) : Option (Int32 × St) :=
  bnd (mX5_get (16 + g) ((x1 * 100) + x2) σ) (fun r3 σ2 => if r3 = 1 then
   rz 1 σ2
  else
   rz 0 σ2)
def mX4_targetOf (x1 : Int32) (σ : St) : Option (Int32 × St) :=
  bnd (mX5_get 3 x1 σ) (fun r3 σ2 => some (r3, σ2))
def mX4_kindOf (x1 : Int32) (σ : St) : Option (Int32 × St) :=
  bnd (mX5_get 1 x1 σ) (fun r3 σ2 => some (r3, σ2))
def mX5_set (k : Nat) (x1 x2 : Int32) (σ : St) : Option (St) :=
  if x1 < 0 then
   some σ
  else
   if (nI (rl k)) ≤ x1 then
    some σ
   else
    ix x1 (rl k) (lts (ups σ k (Int32.toNatClampNeg x1) x2) (fun σ4 => some σ4))
def mX4_layerOf (x1 : Int32) (σ : St) : Option (Int32 × St) :=
  bnd (mX5_get 4 x1 σ) (fun r3 σ2 => some (r3, σ2))
def mX0_apply (b : Nat) (x2 : Int32) (σ : St) : Option (St) :=
  bnd (mX4_targetOf x2 σ) (fun r3 σ2 => bnd (mX4_kindOf x2 σ2) (fun r6 σ5 => if r6 = 1 then
   bnv (mX5_set (20 + 3 * b) r3 1 σ5) (fun σ9 => some σ9)
  else if r6 = 2 then
   bnv (mX5_set (20 + 3 * b) r3 0 σ5) (fun σ12 => some σ12)
  else if r6 = 3 then
   bnd (mX4_layerOf x2 σ5) (fun r16 σ15 => bnv (mX5_set (21 + 3 * b) r3 r16 σ15) (fun σ18 => some σ18))
  else 
   some σ5))
def mX4_isStroke (x1 : Int32) (σ : St) : Option (Int32 × St) :=
  bnd (mX5_get 1 x1 σ) (fun r3 σ2 => if r3 = 0 then
   rz 1 σ2
  else
   rz 0 σ2)
def mX0_isUndone (b : Nat) (x1 : Int32) (σ : St) : Option (Int32 × St) :=
  bnd (mX5_get (20 + 3 * b) x1 σ) (fun r3 σ2 => if r3 = 1 then
   rz 1 σ2
  else
   rz 0 σ2)
def mX0_collect_L9 (b : Nat) (g : Nat) : Nat → Int32 → Int32 → Int32 → Int32 → St → Option (St)
 | 0, _, _, _, _, _ => none
 | n + 1, x3, x4, x5, x6, σ =>
  if x5 ≤ x6 then
   some σ
  else
   bnd (mX4_inOrder x6 σ) (fun r4 σ3 => bnd (mX4_isStroke r4 σ3) (fun r7 σ6 => if r7 = 0 then
    (mX0_collect_L9 b g n) x3 x4 x5 (x6 + 1) σ6
   else
    bnd (mX5_get (21 + 3 * b) r4 σ6) (fun r11 σ10 => if r11 = x4 then
     bnd (mX0_isUndone b r4 σ10) (fun r15 σ14 => if r15 = 0 then
      bnd (mX2_has g x3 r4 σ14) (fun r19 σ18 => if r19 = 0 then
       (mX0_collect_L9 b g n) x3 x4 x5 (x6 + 1) σ18
      else
       bnv (mX5_set (22 + 3 * b) (σ18 (29 + b) 0) r4 σ18) (fun σ22 => lts (ups σ22 (29 + b) 0 ((σ22 (29 + b) 0) + 1)) (fun σ23 => (mX0_collect_L9 b g n) x3 x4 x5 (x6 + 1) σ23)))
     else
      (mX0_collect_L9 b g n) x3 x4 x5 (x6 + 1) σ14)
    else
     (mX0_collect_L9 b g n) x3 x4 x5 (x6 + 1) σ10)))
def mX0_collect (b : Nat) (g : Nat) (x3 x4 : Int32) (σ : St) : Option (St) :=
  bnd (mX4_totalCount σ) (fun r3 σ2 => mX0_collect_L9 b g fu x3 x4 r3 0 σ2)
def mX0_show_L74 (b : Nat) (g : Nat) : Nat → Int32 → Int32 → St → Option (St)
 | 0, _, _, _ => none
 | n + 1, x3, x5, σ =>
  if 3 < x5 then
   some σ
  else
   bnv (mX0_collect b g x3 x5 σ) (fun σ3 => (mX0_show_L74 b g n) x3 (x5 + 1) σ3)
def mX0_show_L33 (b : Nat) (g : Nat) : Nat → Int32 → Int32 → Int32 → St → Option (St)
 | 0, _, _, _, _ => none
 | n + 1, x3, x4, x5, σ =>
  if x4 ≤ x5 then
   mX0_show_L74 b g fu x3 0 σ
  else
   bnd (mX4_inOrder x5 σ) (fun r4 σ3 => bnd (mX2_has g x3 r4 σ3) (fun r7 σ6 => if r7 = 0 then
    (mX0_show_L33 b g n) x3 x4 (x5 + 1) σ6
   else
    bnv (mX0_apply b r4 σ6) (fun σ10 => (mX0_show_L33 b g n) x3 x4 (x5 + 1) σ10)))
def mX0_show (b : Nat) (g : Nat) (x3 : Int32) (σ : St) : Option (St) :=
  bnd (mX4_totalCount σ) (fun r3 σ2 => bnv (mX5_fill (20 + 3 * b) 0 σ2) (fun σ5 => bnv (mX5_copyFrom (21 + 3 * b) 4 σ5) (fun σ7 => lts (ups σ7 (29 + b) 0 0) (fun σ8 => mX0_show_L33 b g fu x3 r3 0 σ8))))
def mX0_strokeCount (b : Nat) (σ : St) : Option (Int32 × St) :=
  some ((σ (29 + b) 0), σ)
def mX0_strokeIn (b : Nat) (x1 : Int32) (σ : St) : Option (Int32 × St) :=
  bnd (mX5_get (22 + 3 * b) x1 σ) (fun r3 σ2 => some (r3, σ2))
def mX0_layerOf (b : Nat) (x1 : Int32) (σ : St) : Option (Int32 × St) :=
  bnd (mX5_get (21 + 3 * b) x1 σ) (fun r3 σ2 => some (r3, σ2))
def mX0_matches_L15 (b : Nat) (b2 : Nat) : Nat → Int32 → St → Option (Int32 × St)
 | 0, _, _ => none
 | n + 1, x2, σ =>
  if (σ (29 + b) 0) ≤ x2 then
   rz 1 σ
  else
   bnd (mX5_get (22 + 3 * b) x2 σ) (fun r4 σ3 => bnd (mX0_strokeIn b2 x2 σ3) (fun r7 σ6 => if r4 = r7 then
    bnd (mX5_get (21 + 3 * b) r4 σ6) (fun r11 σ10 => bnd (mX0_layerOf b2 r4 σ10) (fun r14 σ13 => if r11 = r14 then
     (mX0_matches_L15 b b2 n) (x2 + 1) σ13
    else
     rz 0 σ13))
   else
    rz 0 σ6))
def mX0_matches (b : Nat) (b2 : Nat) (σ : St) : Option (Int32 × St) :=
  if (σ (29 + b) 0) = (σ (29 + b2) 0) then
   mX0_matches_L15 b b2 fu 0 σ
  else
   rz 0 σ
def mX6_authorOf (x0 : Int32) (σ : St) : Option (Int32 × St) :=
  some ((x0 / 20), σ)
def mX6_numberOf (x0 : Int32) (σ : St) : Option (Int32 × St) :=
  some (((x0 - x0 / 20 * 20) + 1), σ)
def mX1_colorOf (t : Nat) (x1 : Int32) (σ : St) : Option (Int32 × St) :=
  bnd (mX5_get (7 + 5 * t) x1 σ) (fun r3 σ2 => some (r3, σ2))
def mX1_pointCount (t : Nat) (x1 : Int32) (σ : St) : Option (Int32 × St) :=
  bnd (mX5_get (6 + 5 * t) x1 σ) (fun r3 σ2 => some (r3, σ2))
def mX1_xOf (t : Nat) (x1 x2 : Int32) (σ : St) : Option (Int32 × St) :=
  bnd (mX5_get (9 + 5 * t) ((x1 * 8) + x2) σ) (fun r3 σ2 => some (r3, σ2))
def mX1_yOf (t : Nat) (x1 x2 : Int32) (σ : St) : Option (Int32 × St) :=
  bnd (mX5_get (10 + 5 * t) ((x1 * 8) + x2) σ) (fun r3 σ2 => some (r3, σ2))
def mX0_hashPoints_L6 (b : Nat) (t : Nat) : Nat → Int32 → Int32 → Int32 → St → Option (Int32 × St)
 | 0, _, _, _, _ => none
 | n + 1, x3, x4, x5, σ =>
  bnd (mX1_pointCount t x3 σ) (fun r3 σ2 => if r3 ≤ x5 then
   some (x4, σ2)
  else
   bnd (mX1_xOf t x3 x5 σ2) (fun r7 σ6 => bnd (mX1_yOf t x3 x5 σ6) (fun r10 σ9 => (mX0_hashPoints_L6 b t n) x3 ((31 * ((31 * x4) + r7)) + r10) (x5 + 1) σ9)))
def mX0_hashPoints (b : Nat) (t : Nat) (x1 x3 : Int32) (σ : St) : Option (Int32 × St) :=
  mX0_hashPoints_L6 b t fu x3 x1 0 σ
def mX0_hash_L5 (b : Nat) : Nat → Int32 → Int32 → St → Option (Int32 × St)
 | 0, _, _, _ => none
 | n + 1, x2, x3, σ =>
  if (σ (29 + b) 0) ≤ x3 then
   some (x2, σ)
  else
   bnd (mX5_get (22 + 3 * b) x3 σ) (fun r4 σ3 => bnd (mX6_authorOf r4 σ3) (fun r7 σ6 => bnd (mX6_numberOf r4 σ6) (fun r10 σ9 => bnd (mX5_get (21 + 3 * b) r4 σ9) (fun r13 σ12 => lti ((31 * ((31 * ((31 * x2) + r7)) + r10)) + r13) (fun z14 => bnd (mX1_colorOf 0 r4 σ12) (fun r17 σ16 => bnd (mX0_hashPoints b 0 ((31 * z14) + r17) r4 σ16) (fun r20 σ19 => (mX0_hash_L5 b n) r20 (x3 + 1) σ19)))))))
def mX0_hash (b : Nat) (σ : St) : Option (Int32 × St) :=
  mX0_hash_L5 b fu 17 0 σ
def mX1_clear (t : Nat) (σ : St) : Option (St) :=
  bnv (mX5_fill (6 + 5 * t) 0 σ) (fun σ2 => some σ2)
def mX1_empty (t : Nat) (x1 : Int32) (σ : St) : Option (St) :=
  bnv (mX5_set (6 + 5 * t) x1 0 σ) (fun σ2 => some σ2)
def mX1_start (t : Nat) (x1 x2 x3 : Int32) (σ : St) : Option (St) :=
  bnv (mX1_empty t x1 σ) (fun σ2 => bnv (mX5_set (7 + 5 * t) x1 x2 σ2) (fun σ4 => bnv (mX5_set (8 + 5 * t) x1 x3 σ4) (fun σ6 => some σ6)))
def mX1_addPoint (t : Nat) (x1 x2 x3 : Int32) (σ : St) : Option (St) :=
  bnd (mX5_get (6 + 5 * t) x1 σ) (fun r3 σ2 => if 8 ≤ r3 then
   some σ2
  else
   bnv (mX5_set (9 + 5 * t) ((x1 * 8) + r3) x2 σ2) (fun σ6 => bnv (mX5_set (10 + 5 * t) ((x1 * 8) + r3) x3 σ6) (fun σ8 => bnv (mX5_set (6 + 5 * t) x1 (r3 + 1) σ8) (fun σ10 => some σ10))))
def mX1_layerOf (t : Nat) (x1 : Int32) (σ : St) : Option (Int32 × St) :=
  bnd (mX5_get (8 + 5 * t) x1 σ) (fun r3 σ2 => some (r3, σ2))
def mX1_copyFrom_L25 (t : Nat) (t2 : Nat) : Nat → Int32 → Int32 → Int32 → Int32 → St → Option (St)
 | 0, _, _, _, _, _ => none
 | n + 1, x2, x3, x4, x5, σ =>
  if x4 ≤ x5 then
   some σ
  else
   bnd (mX1_xOf t2 x2 x5 σ) (fun r4 σ3 => bnd (mX1_yOf t2 x2 x5 σ3) (fun r7 σ6 => bnv (mX1_addPoint t x3 r4 r7 σ6) (fun σ9 => (mX1_copyFrom_L25 t t2 n) x2 x3 x4 (x5 + 1) σ9)))
def mX1_copyFrom (t : Nat) (t2 : Nat) (x2 x3 : Int32) (σ : St) : Option (St) :=
  bnd (mX1_pointCount t2 x2 σ) (fun r3 σ2 => bnd (mX1_colorOf t2 x2 σ2) (fun r6 σ5 => bnd (mX1_layerOf t2 x2 σ5) (fun r9 σ8 => bnv (mX1_start t x3 r6 r9 σ8) (fun σ11 => mX1_copyFrom_L25 t t2 fu x2 x3 r3 0 σ11))))
def mX1_hasPoint_L3 (t : Nat) : Nat → Int32 → Int32 → Int32 → Int32 → St → Option (Int32 × St)
 | 0, _, _, _, _, _ => none
 | n + 1, x1, x2, x3, x4, σ =>
  bnd (mX5_get (6 + 5 * t) x1 σ) (fun r3 σ2 => if r3 ≤ x4 then
   rz 0 σ2
  else
   bnd (mX1_xOf t x1 x4 σ2) (fun r7 σ6 => if r7 = x2 then
    bnd (mX1_yOf t x1 x4 σ6) (fun r11 σ10 => if r11 = x3 then
     rz 1 σ10
    else
     (mX1_hasPoint_L3 t n) x1 x2 x3 (x4 + 1) σ10)
   else
    (mX1_hasPoint_L3 t n) x1 x2 x3 (x4 + 1) σ6))
def mX1_hasPoint (t : Nat) (x1 x2 x3 : Int32) (σ : St) : Option (Int32 × St) :=
  mX1_hasPoint_L3 t fu x1 x2 x3 0 σ
def mX6_isWithin (x0 x1 x2 : Int32) (σ : St) : Option (Int32 × St) :=
  if x0 < x1 then
   rz 0 σ
  else
   if x2 < x0 then
    rz 0 σ
   else
    rz 1 σ
def mX1_sizeOf_b69 (t : Nat) (k4 : Int32 → Int32 → Int32 → St → Option (Int32 × St)) (x1 x2 x3 y0 : Int32) (σ : St) : Option (Int32 × St) :=
  if y0 = 0 then
   k4 x1 (x2 + 2) (x3 + 1) σ
  else
   k4 x1 (x2 + 1) (x3 + 1) σ
def mX1_sizeOf_b68 (t : Nat) (k4 : Int32 → Int32 → Int32 → St → Option (Int32 × St)) (x1 x2 x3 : Int32) (σ : St) : Option (Int32 × St) :=
  mX1_sizeOf_b69 t k4 x1 x2 x3 0 σ
def mX1_sizeOf_L4 (t : Nat) : Nat → Int32 → Int32 → Int32 → St → Option (Int32 × St)
 | 0, _, _, _, _ => none
 | n + 1, x1, x2, x3, σ =>
  bnd (mX5_get (6 + 5 * t) x1 σ) (fun r3 σ2 => if r3 ≤ x3 then
   some (x2, σ2)
  else
   bnd (mX1_xOf t x1 x3 σ2) (fun r7 σ6 => bnd (mX1_xOf t x1 (x3 - 1) σ6) (fun r10 σ9 => bnd (mX6_isWithin (r7 - r10) (-4) 3 σ9) (fun r13 σ12 => if r13 = 0 then
    mX1_sizeOf_b68 t (mX1_sizeOf_L4 t n) x1 x2 x3 σ12
   else
    bnd (mX1_yOf t x1 x3 σ12) (fun r17 σ16 => bnd (mX1_yOf t x1 (x3 - 1) σ16) (fun r20 σ19 => bnd (mX6_isWithin (r17 - r20) (-4) 3 σ19) (fun r23 σ22 => if r23 = 0 then
     mX1_sizeOf_b68 t (mX1_sizeOf_L4 t n) x1 x2 x3 σ22
    else
     mX1_sizeOf_b69 t (mX1_sizeOf_L4 t n) x1 x2 x3 1 σ22)))))))
def mX1_sizeOf (t : Nat) (x1 : Int32) (σ : St) : Option (Int32 × St) :=
  mX1_sizeOf_L4 t fu x1 4 1 σ
def mX2_clear (g : Nat) (σ : St) : Option (St) :=
  bnv (mX5_fill (16 + g) 0 σ) (fun σ2 => some σ2)
def mX2_copyFrom (g : Nat) (g2 : Nat) (σ : St) : Option (St) :=
  bnv (mX5_copyFrom (16 + g) (16 + g2) σ) (fun σ2 => some σ2)
def mX2_learn (g : Nat) (x1 x2 : Int32) (σ : St) : Option (St) :=
  bnv (mX5_set (16 + g) ((x1 * 100) + x2) 1 σ) (fun σ2 => some σ2)
def mX2_countOf_L4 (g : Nat) : Nat → Int32 → Int32 → Int32 → St → Option (Int32 × St)
 | 0, _, _, _, _ => none
 | n + 1, x1, x2, x3, σ =>
  if 100 ≤ x3 then
   some (x2, σ)
  else
   bnd (mX2_has g x1 x3 σ) (fun r4 σ3 => if r4 = 0 then
    (mX2_countOf_L4 g n) x1 (x2 + 0) (x3 + 1) σ3
   else
    (mX2_countOf_L4 g n) x1 (x2 + 1) (x3 + 1) σ3)
def mX2_countOf (g : Nat) (x1 : Int32) (σ : St) : Option (Int32 × St) :=
  mX2_countOf_L4 g fu x1 0 0 σ
def mX6_idOf (x0 x1 : Int32) (σ : St) : Option (Int32 × St) :=
  some ((((x0 * 20) + x1) - 1), σ)
def mX2_hasLaterOfAuthor_L13 (g : Nat) : Nat → Int32 → Int32 → Int32 → St → Option (Int32 × St)
 | 0, _, _, _, _ => none
 | n + 1, x1, x3, x4, σ =>
  if 20 < x4 then
   rz 0 σ
  else
   bnd (mX6_idOf x3 x4 σ) (fun r4 σ3 => bnd (mX2_has g x1 r4 σ3) (fun r7 σ6 => if r7 = 0 then
    (mX2_hasLaterOfAuthor_L13 g n) x1 x3 (x4 + 1) σ6
   else
    rz 1 σ6))
def mX2_hasLaterOfAuthor (g : Nat) (x1 x2 : Int32) (σ : St) : Option (Int32 × St) :=
  bnd (mX6_authorOf x2 σ) (fun r3 σ2 => bnd (mX6_numberOf x2 σ2) (fun r6 σ5 => mX2_hasLaterOfAuthor_L13 g fu x1 r3 (r6 + 1) σ5))
def mX2_isInGap (g : Nat) (x1 x2 : Int32) (σ : St) : Option (Int32 × St) :=
  bnd (mX2_has g x1 x2 σ) (fun r3 σ2 => if r3 = 0 then
   bnd (mX2_hasLaterOfAuthor g x1 x2 σ2) (fun r7 σ6 => if r7 = 0 then
    rz 0 σ6
   else
    rz 1 σ6)
  else
   rz 0 σ2)
def mX3_clear (σ : St) : Option (St) :=
  bnv (mX5_fill 18 0 σ) (fun σ2 => some σ2)
def mX3_send (x1 x2 x3 : Int32) (σ : St) : Option (St) :=
  bnd (mX5_get 18 ((x1 * 5) + x2) σ) (fun r3 σ2 => if 10 ≤ r3 then
   some σ2
  else
   bnv (mX5_set 19 ((((x1 * 5) + x2) * 10) + r3) x3 σ2) (fun σ6 => bnv (mX5_set 18 ((x1 * 5) + x2) (r3 + 1) σ6) (fun σ8 => some σ8)))
def mX3_countIn (x1 x2 : Int32) (σ : St) : Option (Int32 × St) :=
  bnd (mX5_get 18 ((x1 * 5) + x2) σ) (fun r3 σ2 => some (r3, σ2))
def mX3_messageIn (x1 x2 x3 : Int32) (σ : St) : Option (Int32 × St) :=
  bnd (mX5_get 19 ((((x1 * 5) + x2) * 10) + x3) σ) (fun r3 σ2 => some (r3, σ2))
def mX3_dropFirst_b66 (x3 x4 : Int32) (σ : St) : Option (St) :=
  lti (if x4 < 0 then 0 else x4) (fun z1 => bnv (mX5_set 18 x3 z1 σ) (fun σ3 => some σ3))
def mX3_dropFirst_L27 : Nat → Int32 → Int32 → Int32 → Int32 → St → Option (St)
 | 0, _, _, _, _, _ => none
 | n + 1, x3, x4, x5, x6, σ =>
  if x4 ≤ x6 then
   mX3_dropFirst_b66 x3 x4 σ
  else
   bnd (mX5_get 19 ((x5 + x6) + 1) σ) (fun r4 σ3 => bnv (mX5_set 19 (x5 + x6) r4 σ3) (fun σ6 => (mX3_dropFirst_L27 n) x3 x4 x5 (x6 + 1) σ6))
def mX3_dropFirst (x1 x2 : Int32) (σ : St) : Option (St) :=
  bnd (mX5_get 18 ((x1 * 5) + x2) σ) (fun r3 σ2 => mX3_dropFirst_L27 fu ((x1 * 5) + x2) (r3 - 1) (((x1 * 5) + x2) * 10) 0 σ2)
def mX3_carry_L10 (k2 : Int32 → Int32 → St → Option (Int32 × St)) : Nat → Int32 → Int32 → Int32 → St → Option (Int32 × St)
 | 0, _, _, _, _ => none
 | n + 1, x1, x2, x3, σ =>
  bnd (mX5_get 18 x2 σ) (fun r3 σ2 => if r3 ≤ x3 then
   k2 x1 (x2 + 1) σ2
  else
   bnd (mX5_get 19 ((x2 * 10) + x3) σ2) (fun r7 σ6 => if r7 = x1 then
    rz 1 σ6
   else
    (mX3_carry_L10 k2 n) x1 x2 (x3 + 1) σ6))
def mX3_carry_L2 : Nat → Int32 → Int32 → St → Option (Int32 × St)
 | 0, _, _, _ => none
 | n + 1, x1, x2, σ =>
  if 25 ≤ x2 then
   rz 0 σ
  else
   mX3_carry_L10 (mX3_carry_L2 n) fu x1 x2 0 σ
def mX3_carry (x1 : Int32) (σ : St) : Option (Int32 × St) :=
  mX3_carry_L2 fu x1 0 σ
def mX4_clear (σ : St) : Option (St) :=
  bnv (mX5_fill 0 0 σ) (fun σ2 => lts (ups σ2 28 0 0) (fun σ3 => some σ3))
def mJ6_compare_7cf53 (x0 x1 : Int32) (σ : St) : Option (Int32 × St) :=
  if x1 ≤ x0 then
   if x0 = x1 then
    some (0, σ)
   else
    some (1, σ)
  else
   some ((-1), σ)
def mX4_comesAfter (x1 x2 : Int32) (σ : St) : Option (Int32 × St) :=
  bnd (mX5_get 2 x1 σ) (fun r3 σ2 => bnd (mX5_get 2 x2 σ2) (fun r6 σ5 => bnd (mJ6_compare_7cf53 r3 r6 σ5) (fun r9 σ8 => if 0 < r9 then
   rz 1 σ8
  else
   if r9 = 0 then
    bnd (mX6_authorOf x1 σ8) (fun r14 σ13 => bnd (mX6_authorOf x2 σ13) (fun r17 σ16 => if r14 ≤ r17 then
     rz 0 σ16
    else
     rz 1 σ16))
   else
    rz 0 σ8)))
def mX4_insert_b51 (x1 x2 : Int32) (σ : St) : Option (St) :=
  bnv (mX5_set 5 x2 x1 σ) (fun σ2 => lts (ups σ2 28 0 ((σ2 28 0) + 1)) (fun σ3 => some σ3))
def mX4_insert_L5 : Nat → Int32 → Int32 → St → Option (St)
 | 0, _, _, _ => none
 | n + 1, x1, x2, σ =>
  if x2 ≤ 0 then
   mX4_insert_b51 x1 x2 σ
  else
   bnd (mX5_get 5 (x2 - 1) σ) (fun r4 σ3 => bnd (mX4_comesAfter r4 x1 σ3) (fun r7 σ6 => if r7 = 0 then
    mX4_insert_b51 x1 x2 σ6
   else
    bnd (mX5_get 5 (x2 - 1) σ6) (fun r11 σ10 => bnv (mX5_set 5 x2 r11 σ10) (fun σ13 => (mX4_insert_L5 n) x1 (x2 + (-1)) σ13))))
def mX4_insert (x1 : Int32) (σ : St) : Option (St) :=
  mX4_insert_L5 fu x1 (σ 28 0) σ
def mX4_addOperation (x1 x2 x3 : Int32) (σ : St) : Option (Int32 × St) :=
  bnd (mX5_get 0 x1 σ) (fun r3 σ2 => bnd (mX6_idOf x1 (r3 + 1) σ2) (fun r6 σ5 => bnv (mX5_set 0 x1 (r3 + 1) σ5) (fun σ8 => bnv (mX5_set 2 r6 x2 σ8) (fun σ10 => bnv (mX5_set 1 r6 x3 σ10) (fun σ12 => bnv (mX4_insert r6 σ12) (fun σ14 => some (r6, σ14)))))))
def mX4_addStroke (t : Nat) (x1 x2 : Int32) (σ : St) : Option (Int32 × St) :=
  bnd (mX4_addOperation x1 x2 0 σ) (fun r3 σ2 => bnv (mX1_copyFrom 0 t x1 r3 σ2) (fun σ5 => bnd (mX1_layerOf 0 r3 σ5) (fun r8 σ7 => bnv (mX5_set 4 r3 r8 σ7) (fun σ10 => some (r3, σ10)))))
def mX4_addChange (x1 x2 x3 x4 x5 : Int32) (σ : St) : Option (Int32 × St) :=
  bnd (mX4_addOperation x1 x2 x3 σ) (fun r3 σ2 => bnv (mX5_set 3 r3 x4 σ2) (fun σ5 => bnv (mX5_set 4 r3 x5 σ5) (fun σ7 => some (r3, σ7))))
def mX4_madeBy (x1 : Int32) (σ : St) : Option (Int32 × St) :=
  bnd (mX5_get 0 x1 σ) (fun r3 σ2 => some (r3, σ2))
def mX4_timeOf (x1 : Int32) (σ : St) : Option (Int32 × St) :=
  bnd (mX5_get 2 x1 σ) (fun r3 σ2 => some (r3, σ2))
def mX4_sizeOf (x1 : Int32) (σ : St) : Option (Int32 × St) :=
  bnd (mX5_get 1 x1 σ) (fun r3 σ2 => if r3 = 0 then
   bnd (mX1_sizeOf 0 x1 σ2) (fun r7 σ6 => some (r7, σ6))
  else if r3 = 3 then
   some (4, σ2)
  else 
   some (3, σ2))
def mX6_reset (x1 : Int32) (σ : St) : Option (Int32 × St) :=
  bnd (mX6_isWithin x1 1 5 σ) (fun r3 σ2 => if r3 = 0 then
   some ((-1000000001), σ2)
  else
   bnv (mX4_clear σ2) (fun σ6 => bnv (mX1_clear 1 σ6) (fun σ8 => bnv (mX2_clear 0 σ8) (fun σ10 => bnv (mX3_clear σ10) (fun σ12 => bnv (mX5_fill 26 0 σ12) (fun σ14 => lts (ups σ14 27 0 x1) (fun σ15 => some ((σ2 27 0), σ15))))))))
def mX6_sites (σ : St) : Option (Int32 × St) :=
  some ((σ 27 0), σ)
def mX6_isSite (x1 : Int32) (σ : St) : Option (Int32 × St) :=
  bnd (mX6_isWithin x1 0 ((σ 27 0) - 1) σ) (fun r3 σ2 => rz r3 σ2)
def mX6_siteInfo (x1 x2 : Int32) (σ : St) : Option (Int32 × St) :=
  bnd (mX6_isSite x1 σ) (fun r3 σ2 => if r3 = 0 then
   some ((-1000000001), σ2)
  else
   if x2 = 0 then
    bnd (mX5_get 26 x1 σ2) (fun r8 σ7 => some (r8, σ7))
   else if x2 = 1 then
    bnd (mX2_countOf 0 x1 σ2) (fun r12 σ11 => some (r12, σ11))
   else if x2 = 2 then
    bnd (mX4_madeBy x1 σ2) (fun r16 σ15 => some (r16, σ15))
   else if x2 = 3 then
    bnv (mX0_show 0 0 x1 σ2) (fun σ19 => bnd (mX0_strokeCount 0 σ19) (fun r22 σ21 => some (r22, σ21)))
   else if x2 = 4 then
    bnd (mX1_pointCount 1 x1 σ2) (fun r26 σ25 => some (r26, σ25))
   else 
    some ((-1000000001), σ2))
def mX6_penDown (x1 x2 x3 x4 x5 : Int32) (σ : St) : Option (Int32 × St) :=
  bnd (mX6_isSite x1 σ) (fun r3 σ2 => if r3 = 0 then
   some ((-1000000001), σ2)
  else
   bnd (mX6_isWithin x2 0 63 σ2) (fun r7 σ6 => if r7 = 0 then
    some ((-1000000001), σ6)
   else
    bnd (mX6_isWithin x3 0 63 σ6) (fun r11 σ10 => if r11 = 0 then
     some ((-1000000001), σ10)
    else
     bnd (mX6_isWithin x4 0 7 σ10) (fun r15 σ14 => if r15 = 0 then
      some ((-1000000001), σ14)
     else
      bnd (mX6_isWithin x5 0 3 σ14) (fun r19 σ18 => if r19 = 0 then
       some ((-1000000001), σ18)
      else
       bnv (mX1_start 1 x1 x4 x5 σ18) (fun σ22 => bnv (mX1_addPoint 1 x1 x2 x3 σ22) (fun σ24 => bnd (mX1_pointCount 1 x1 σ24) (fun r27 σ26 => some (r27, σ26)))))))))
def mX6_penMove (x1 x2 x3 : Int32) (σ : St) : Option (Int32 × St) :=
  bnd (mX6_isSite x1 σ) (fun r3 σ2 => if r3 = 0 then
   some ((-1000000001), σ2)
  else
   bnd (mX6_isWithin x2 (-8) 8 σ2) (fun r7 σ6 => if r7 = 0 then
    some ((-1000000001), σ6)
   else
    bnd (mX6_isWithin x3 (-8) 8 σ6) (fun r11 σ10 => if r11 = 0 then
     some ((-1000000001), σ10)
    else
     bnd (mX1_pointCount 1 x1 σ10) (fun r15 σ14 => if r15 = 0 then
      some ((-1000000002), σ14)
     else
      if r15 < 8 then
       bnd (mX1_xOf 1 x1 (r15 - 1) σ14) (fun r20 σ19 => bnd (mX1_yOf 1 x1 (r15 - 1) σ19) (fun r23 σ22 => bnv (mX1_addPoint 1 x1 (r20 + x2) (r23 + x3) σ22) (fun σ25 => bnd (mX1_pointCount 1 x1 σ25) (fun r28 σ27 => some (r28, σ27)))))
      else
       some ((-1000000003), σ14)))))
def mX6_hasMadeAll (x1 : Int32) (σ : St) : Option (Int32 × St) :=
  bnd (mX4_madeBy x1 σ) (fun r3 σ2 => if r3 < 20 then
   rz 0 σ2
  else
   rz 1 σ2)
def mX6_tick (x1 : Int32) (σ : St) : Option (Int32 × St) :=
  bnd (mX5_get 26 x1 σ) (fun r3 σ2 => bnv (mX5_set 26 x1 (r3 + 1) σ2) (fun σ5 => bnd (mX5_get 26 x1 σ5) (fun r8 σ7 => some (r8, σ7))))
def mX6_publish_L11 : Nat → Int32 → Int32 → Int32 → St → Option (St)
 | 0, _, _, _, _ => none
 | n + 1, x1, x2, x3, σ =>
  if (σ 27 0) ≤ x3 then
   some σ
  else
   if x3 = x1 then
    (mX6_publish_L11 n) x1 x2 (x3 + 1) σ
   else
    bnv (mX3_send x1 x3 x2 σ) (fun σ4 => (mX6_publish_L11 n) x1 x2 (x3 + 1) σ4)
def mX6_publish (x1 x2 : Int32) (σ : St) : Option (St) :=
  bnv (mX2_learn 0 x1 x2 σ) (fun σ2 => mX6_publish_L11 fu x1 x2 0 σ2)
def mX6_penUp (x1 : Int32) (σ : St) : Option (Int32 × St) :=
  bnd (mX6_isSite x1 σ) (fun r3 σ2 => if r3 = 0 then
   some ((-1000000001), σ2)
  else
   bnd (mX1_pointCount 1 x1 σ2) (fun r7 σ6 => if r7 = 0 then
    some ((-1000000002), σ6)
   else
    bnd (mX6_hasMadeAll x1 σ6) (fun r11 σ10 => if r11 = 0 then
     bnd (mX6_tick x1 σ10) (fun r15 σ14 => bnd (mX4_addStroke 1 x1 r15 σ14) (fun r18 σ17 => bnv (mX1_empty 1 x1 σ17) (fun σ20 => bnv (mX6_publish x1 r18 σ20) (fun σ22 => bnd (mX6_numberOf r18 σ22) (fun r25 σ24 => some (r25, σ24))))))
    else
     some ((-1000000003), σ10))))
def mX6_lastVisibleOwn_L25 : Nat → Int32 → Int32 → St → Option (Int32 × St)
 | 0, _, _, _ => none
 | n + 1, x1, x2, σ =>
  if x2 < 1 then
   some ((-1), σ)
  else
   bnd (mX6_idOf x1 x2 σ) (fun r4 σ3 => bnd (mX4_isStroke r4 σ3) (fun r7 σ6 => if r7 = 0 then
    (mX6_lastVisibleOwn_L25 n) x1 (x2 + (-1)) σ6
   else
    bnd (mX0_isUndone 0 r4 σ6) (fun r11 σ10 => if r11 = 0 then
     some (r4, σ10)
    else
     (mX6_lastVisibleOwn_L25 n) x1 (x2 + (-1)) σ10)))
def mX6_lastVisibleOwn (x1 : Int32) (σ : St) : Option (Int32 × St) :=
  bnv (mX0_show 0 0 x1 σ) (fun σ2 => bnd (mX4_madeBy x1 σ2) (fun r5 σ4 => mX6_lastVisibleOwn_L25 fu x1 r5 σ4))
def mX6_changeOwn (x1 x2 x3 : Int32) (σ : St) : Option (Int32 × St) :=
  if x3 = (-1) then
   some ((-1000000002), σ)
  else
   bnd (mX6_hasMadeAll x1 σ) (fun r4 σ3 => if r4 = 0 then
    bnd (mX6_tick x1 σ3) (fun r8 σ7 => bnd (mX4_addChange x1 r8 x2 x3 (-1) σ7) (fun r11 σ10 => bnv (mX6_publish x1 r11 σ10) (fun σ13 => bnd (mX6_numberOf x3 σ13) (fun r16 σ15 => some (r16, σ15)))))
   else
    some ((-1000000003), σ3))
def mX6_undo (x1 : Int32) (σ : St) : Option (Int32 × St) :=
  bnd (mX6_isSite x1 σ) (fun r3 σ2 => if r3 = 0 then
   some ((-1000000001), σ2)
  else
   bnd (mX6_lastVisibleOwn x1 σ2) (fun r7 σ6 => bnd (mX6_changeOwn x1 1 r7 σ6) (fun r10 σ9 => some (r10, σ9))))
def mX6_lastUndoneOwn_b66 (x3 : Int32) (σ : St) : Option (Int32 × St) :=
  bnd (mX4_targetOf x3 σ) (fun r3 σ2 => some (r3, σ2))
def mX6_lastUndoneOwn_L25 : Nat → Int32 → Int32 → St → Option (Int32 × St)
 | 0, _, _, _ => none
 | n + 1, x1, x2, σ =>
  if x2 < 1 then
   some ((-1), σ)
  else
   bnd (mX6_idOf x1 x2 σ) (fun r4 σ3 => bnd (mX4_kindOf r4 σ3) (fun r7 σ6 => if r7 = 1 then
    bnd (mX4_targetOf r4 σ6) (fun r11 σ10 => bnd (mX0_isUndone 0 r11 σ10) (fun r14 σ13 => if r14 = 0 then
     (mX6_lastUndoneOwn_L25 n) x1 (x2 + (-1)) σ13
    else
     mX6_lastUndoneOwn_b66 r4 σ13))
   else
    (mX6_lastUndoneOwn_L25 n) x1 (x2 + (-1)) σ6))
def mX6_lastUndoneOwn (x1 : Int32) (σ : St) : Option (Int32 × St) :=
  bnv (mX0_show 0 0 x1 σ) (fun σ2 => bnd (mX4_madeBy x1 σ2) (fun r5 σ4 => mX6_lastUndoneOwn_L25 fu x1 r5 σ4))
def mX6_redo (x1 : Int32) (σ : St) : Option (Int32 × St) :=
  bnd (mX6_isSite x1 σ) (fun r3 σ2 => if r3 = 0 then
   some ((-1000000001), σ2)
  else
   bnd (mX6_lastUndoneOwn x1 σ2) (fun r7 σ6 => bnd (mX6_changeOwn x1 2 r7 σ6) (fun r10 σ9 => some (r10, σ9))))
def mX6_lift (x1 x2 x3 : Int32) (σ : St) : Option (Int32 × St) :=
  bnd (mX6_isSite x1 σ) (fun r3 σ2 => if r3 = 0 then
   some ((-1000000001), σ2)
  else
   if x2 < 0 then
    some ((-1000000001), σ2)
   else
    bnd (mX6_isWithin x3 0 3 σ2) (fun r8 σ7 => if r8 = 0 then
     some ((-1000000001), σ7)
    else
     bnv (mX0_show 0 0 x1 σ7) (fun σ11 => bnd (mX0_strokeCount 0 σ11) (fun r14 σ13 => if x2 < r14 then
      bnd (mX6_hasMadeAll x1 σ13) (fun r18 σ17 => if r18 = 0 then
       bnd (mX6_tick x1 σ17) (fun r22 σ21 => bnd (mX0_strokeIn 0 x2 σ21) (fun r25 σ24 => bnd (mX4_addChange x1 r22 3 r25 x3 σ24) (fun r28 σ27 => bnv (mX6_publish x1 r28 σ27) (fun σ30 => bnd (mX6_numberOf r28 σ30) (fun r33 σ32 => some (r33, σ32))))))
      else
       some ((-1000000003), σ17))
     else
      some ((-1000000002), σ13)))))
def mX6_areTwoSites (x1 x2 : Int32) (σ : St) : Option (Int32 × St) :=
  bnd (mX6_isSite x1 σ) (fun r3 σ2 => if r3 = 0 then
   rz 0 σ2
  else
   bnd (mX6_isSite x2 σ2) (fun r7 σ6 => if r7 = 0 then
    rz 0 σ6
   else
    if x1 = x2 then
     rz 0 σ6
    else
     rz 1 σ6))
def mX6_receive (x1 x2 : Int32) (σ : St) : Option (St) :=
  bnv (mX2_learn 0 x1 x2 σ) (fun σ2 => bnd (mX5_get 26 x1 σ2) (fun r5 σ4 => bnd (mX4_timeOf x2 σ4) (fun r8 σ7 => lti (if r5 < r8 then r8 else r5) (fun z9 => bnv (mX5_set 26 x1 z9 σ7) (fun σ11 => some σ11)))))
def mX6_deliver (x1 x2 : Int32) (σ : St) : Option (Int32 × St) :=
  bnd (mX6_areTwoSites x1 x2 σ) (fun r3 σ2 => if r3 = 0 then
   some ((-1000000001), σ2)
  else
   bnd (mX3_countIn x1 x2 σ2) (fun r7 σ6 => if r7 = 0 then
    some ((-1000000004), σ6)
   else
    bnd (mX3_messageIn x1 x2 0 σ6) (fun r11 σ10 => bnv (mX3_dropFirst x1 x2 σ10) (fun σ13 => bnv (mX6_receive x2 r11 σ13) (fun σ15 => bnd (mX6_authorOf r11 σ15) (fun r18 σ17 => bnd (mX6_numberOf r11 σ17) (fun r21 σ20 => some (((100 * r18) + r21), σ20))))))))
def mX6_lose (x1 x2 : Int32) (σ : St) : Option (Int32 × St) :=
  bnd (mX6_areTwoSites x1 x2 σ) (fun r3 σ2 => if r3 = 0 then
   some ((-1000000001), σ2)
  else
   bnd (mX3_countIn x1 x2 σ2) (fun r7 σ6 => if r7 = 0 then
    some ((-1000000004), σ6)
   else
    bnv (mX3_dropFirst x1 x2 σ6) (fun σ10 => bnd (mX3_countIn x1 x2 σ10) (fun r13 σ12 => some (r13, σ12)))))
def mX6_deliverLink_L13 : Nat → Int32 → Int32 → Int32 → Int32 → St → Option (Int32 × St)
 | 0, _, _, _, _, _ => none
 | n + 1, x1, x2, x3, x4, σ =>
  if x3 ≤ x4 then
   some (x3, σ)
  else
   bnd (mX3_messageIn x1 x2 0 σ) (fun r4 σ3 => bnv (mX6_receive x2 r4 σ3) (fun σ6 => bnv (mX3_dropFirst x1 x2 σ6) (fun σ8 => (mX6_deliverLink_L13 n) x1 x2 x3 (x4 + 1) σ8)))
def mX6_deliverLink (x1 x2 : Int32) (σ : St) : Option (Int32 × St) :=
  bnd (mX3_countIn x1 x2 σ) (fun r3 σ2 => mX6_deliverLink_L13 fu x1 x2 r3 0 σ2)
def mX6_deliverAll_L14 (k4 : Int32 → Int32 → St → Option (Int32 × St)) : Nat → Int32 → Int32 → Int32 → St → Option (Int32 × St)
 | 0, _, _, _, _ => none
 | n + 1, x1, x2, x3, σ =>
  if (σ 27 0) ≤ x3 then
   k4 x1 (x2 + 1) σ
  else
   bnd (mX6_deliverLink x2 x3 σ) (fun r4 σ3 => (mX6_deliverAll_L14 k4 n) (x1 + r4) x2 (x3 + 1) σ3)
def mX6_deliverAll_L4 : Nat → Int32 → Int32 → St → Option (Int32 × St)
 | 0, _, _, _ => none
 | n + 1, x1, x2, σ =>
  if (σ 27 0) ≤ x2 then
   some (x1, σ)
  else
   mX6_deliverAll_L14 (mX6_deliverAll_L4 n) fu x1 x2 0 σ
def mX6_deliverAll (σ : St) : Option (Int32 × St) :=
  mX6_deliverAll_L4 fu 0 0 σ
def mX6_waiting (x1 x2 : Int32) (σ : St) : Option (Int32 × St) :=
  bnd (mX6_areTwoSites x1 x2 σ) (fun r3 σ2 => if r3 = 0 then
   some ((-1000000001), σ2)
  else
   bnd (mX3_countIn x1 x2 σ2) (fun r7 σ6 => some (r7, σ6)))
def mX6_gap_b69 (k32 : Int32 → Int32 → Int32 → Int32 → Int32 → Int32 → St → Option (Int32 × St)) (x1 x2 x3 x4 x5 x6 x7 : Int32) (σ : St) : Option (Int32 × St) :=
  if x7 = 0 then
   k32 x1 x2 x3 x4 x5 (x6 + 1) σ
  else
   if x4 = 0 then
    k32 x1 x2 x3 x4 x5 (x6 + 1) σ
   else
    if x5 = x3 then
     some ((((100 * x4) + x6) - 1), σ)
    else
     k32 x1 x2 x3 0 (x5 + 1) (x6 + 1) σ
def mX6_gap_L32 : Nat → Int32 → Int32 → Int32 → Int32 → Int32 → Int32 → St → Option (Int32 × St)
 | 0, _, _, _, _, _, _, _ => none
 | n + 1, x1, x2, x3, x4, x5, x6, σ =>
  if 20 < x6 then
   some ((-1000000004), σ)
  else
   bnd (mX6_idOf x2 x6 σ) (fun r4 σ3 => bnd (mX2_has 0 x1 r4 σ3) (fun r7 σ6 => if r7 = 0 then
    if x4 = 0 then
     mX6_gap_b69 (mX6_gap_L32 n) x1 x2 x3 x6 x5 x6 r7 σ6
    else
     mX6_gap_b69 (mX6_gap_L32 n) x1 x2 x3 x4 x5 x6 r7 σ6
   else
    mX6_gap_b69 (mX6_gap_L32 n) x1 x2 x3 x4 x5 x6 r7 σ6))
def mX6_gap (x1 x2 x3 : Int32) (σ : St) : Option (Int32 × St) :=
  bnd (mX6_isSite x1 σ) (fun r3 σ2 => if r3 = 0 then
   some ((-1000000001), σ2)
  else
   bnd (mX6_isSite x2 σ2) (fun r7 σ6 => if r7 = 0 then
    some ((-1000000001), σ6)
   else
    if 0 ≤ x3 then
     mX6_gap_L32 fu x1 x2 x3 0 0 1 σ6
    else
     some ((-1000000001), σ6)))
def mX6_canRepair (x1 x2 x3 : Int32) (σ : St) : Option (Int32 × St) :=
  bnd (mX2_isInGap 0 x1 x3 σ) (fun r3 σ2 => if r3 = 0 then
   rz 0 σ2
  else
   bnd (mX2_has 0 x2 x3 σ2) (fun r7 σ6 => if r7 = 0 then
    rz 0 σ6
   else
    rz 1 σ6))
def mX6_repair_L17 : Nat → Int32 → Int32 → Int32 → Int32 → St → Option (Int32 × St)
 | 0, _, _, _, _, _ => none
 | n + 1, x1, x2, x3, x4, σ =>
  if 100 ≤ x4 then
   some (x3, σ)
  else
   bnd (mX6_canRepair x1 x2 x4 σ) (fun r4 σ3 => if r4 = 0 then
    (mX6_repair_L17 n) x1 x2 x3 (x4 + 1) σ3
   else
    bnv (mX6_receive x1 x4 σ3) (fun σ7 => (mX6_repair_L17 n) x1 x2 (x3 + 1) (x4 + 1) σ7))
def mX6_repair (x1 x2 : Int32) (σ : St) : Option (Int32 × St) :=
  bnd (mX6_areTwoSites x1 x2 σ) (fun r3 σ2 => if r3 = 0 then
   some ((-1000000001), σ2)
  else
   mX6_repair_L17 fu x1 x2 0 0 σ2)
def mX6_transfer_b75 (x1 x2 x3 : Int32) (σ : St) : Option (Int32 × St) :=
  bnd (mX5_get 26 x1 σ) (fun r3 σ2 => bnd (mX5_get 26 x2 σ2) (fun r6 σ5 => lti (if r3 < r6 then r6 else r3) (fun z7 => bnv (mX5_set 26 x1 z7 σ5) (fun σ9 => some (x3, σ9)))))
def mX6_transfer_L17 : Nat → Int32 → Int32 → Int32 → Int32 → St → Option (Int32 × St)
 | 0, _, _, _, _, _ => none
 | n + 1, x1, x2, x3, x4, σ =>
  if 100 ≤ x4 then
   mX6_transfer_b75 x1 x2 x3 σ
  else
   bnd (mX2_has 0 x2 x4 σ) (fun r4 σ3 => if r4 = 0 then
    (mX6_transfer_L17 n) x1 x2 x3 (x4 + 1) σ3
   else
    bnd (mX2_has 0 x1 x4 σ3) (fun r8 σ7 => if r8 = 0 then
     bnv (mX6_receive x1 x4 σ7) (fun σ11 => bnd (mX4_sizeOf x4 σ11) (fun r14 σ13 => (mX6_transfer_L17 n) x1 x2 (x3 + r14) (x4 + 1) σ13))
    else
     (mX6_transfer_L17 n) x1 x2 x3 (x4 + 1) σ7))
def mX6_transfer (x1 x2 : Int32) (σ : St) : Option (Int32 × St) :=
  bnd (mX6_areTwoSites x1 x2 σ) (fun r3 σ2 => if r3 = 0 then
   some ((-1000000001), σ2)
  else
   mX6_transfer_L17 fu x1 x2 0 0 σ2)
def mX6_operation (x1 x2 x3 : Int32) (σ : St) : Option (Int32 × St) :=
  bnd (mX6_isSite x1 σ) (fun r3 σ2 => if r3 = 0 then
   some ((-1000000001), σ2)
  else
   if x2 < 1 then
    some ((-1000000001), σ2)
   else
    bnd (mX6_isWithin x3 0 5 σ2) (fun r8 σ7 => if r8 = 0 then
     some ((-1000000001), σ7)
    else
     bnd (mX4_madeBy x1 σ7) (fun r12 σ11 => if x2 ≤ r12 then
      bnd (mX6_idOf x1 x2 σ11) (fun r16 σ15 => if x3 = 0 then
       bnd (mX4_kindOf r16 σ15) (fun r20 σ19 => some (r20, σ19))
      else if x3 = 1 then
       bnd (mX4_timeOf r16 σ15) (fun r24 σ23 => some (r24, σ23))
      else if x3 = 2 then
       bnd (mX4_sizeOf r16 σ15) (fun r28 σ27 => some (r28, σ27))
      else if x3 = 3 then
       bnd (mX4_isStroke r16 σ15) (fun r32 σ31 => if r32 = 0 then
        bnd (mX4_targetOf r16 σ31) (fun r36 σ35 => bnd (mX6_numberOf r36 σ35) (fun r39 σ38 => some (r39, σ38)))
       else
        bnd (mX1_pointCount 0 r16 σ31) (fun r42 σ41 => some (r42, σ41)))
      else if x3 = 4 then
       bnd (mX4_kindOf r16 σ15) (fun r46 σ45 => if r46 = 3 then
        bnd (mX4_targetOf r16 σ45) (fun r50 σ49 => bnd (mX6_authorOf r50 σ49) (fun r53 σ52 => some (r53, σ52)))
       else
        some (x1, σ45))
      else 
       bnd (mX4_layerOf r16 σ15) (fun r56 σ55 => some (r56, σ55)))
     else
      some ((-1000000004), σ11))))
def mX6_knows (x1 x2 x3 : Int32) (σ : St) : Option (Int32 × St) :=
  bnd (mX6_isSite x1 σ) (fun r3 σ2 => if r3 = 0 then
   some ((-1000000001), σ2)
  else
   bnd (mX6_isSite x2 σ2) (fun r7 σ6 => if r7 = 0 then
    some ((-1000000001), σ6)
   else
    if 1 ≤ x3 then
     bnd (mX4_madeBy x2 σ6) (fun r12 σ11 => if x3 ≤ r12 then
      bnd (mX6_idOf x2 x3 σ11) (fun r16 σ15 => bnd (mX2_has 0 x1 r16 σ15) (fun r19 σ18 => if r19 = 0 then
       some (0, σ18)
      else
       some (1, σ18)))
     else
      some ((-1000000004), σ11))
    else
     some ((-1000000001), σ6)))
def mX6_coordinate (x1 x2 : Int32) (σ : St) : Option (Int32 × St) :=
  bnd (mX1_pointCount 0 x1 σ) (fun r3 σ2 => if (x2 / 2) < r3 then
   if (x2 - x2 / 2 * 2) = 0 then
    bnd (mX1_xOf 0 x1 (x2 / 2) σ2) (fun r11 σ10 => some (r11, σ10))
   else
    bnd (mX1_yOf 0 x1 (x2 / 2) σ2) (fun r8 σ7 => some (r8, σ7))
  else
   some ((-1000000004), σ2))
def mX6_strokeValue (x1 x2 : Int32) (σ : St) : Option (Int32 × St) :=
  if x2 = 0 then
   bnd (mX6_authorOf x1 σ) (fun r4 σ3 => some (r4, σ3))
  else if x2 = 1 then
   bnd (mX6_numberOf x1 σ) (fun r8 σ7 => some (r8, σ7))
  else if x2 = 2 then
   bnd (mX0_layerOf 0 x1 σ) (fun r12 σ11 => some (r12, σ11))
  else if x2 = 3 then
   bnd (mX1_colorOf 0 x1 σ) (fun r16 σ15 => some (r16, σ15))
  else 
   bnd (mX1_pointCount 0 x1 σ) (fun r19 σ18 => some (r19, σ18))
def mX6_stroke_b39 (x1 x2 x3 x4 : Int32) (σ : St) : Option (Int32 × St) :=
  bnv (mX0_show 0 0 x1 σ) (fun σ2 => bnd (mX0_strokeCount 0 σ2) (fun r5 σ4 => if x2 < r5 then
   bnd (mX0_strokeIn 0 x2 σ4) (fun r9 σ8 => if x4 = 0 then
    bnd (mX6_strokeValue r9 x3 σ8) (fun r13 σ12 => some (r13, σ12))
   else
    bnd (mX6_coordinate r9 (x3 - 10) σ8) (fun r16 σ15 => some (r16, σ15)))
  else
   some ((-1000000004), σ4)))
def mX6_stroke (x1 x2 x3 : Int32) (σ : St) : Option (Int32 × St) :=
  bnd (mX6_isWithin x3 10 25 σ) (fun r3 σ2 => bnd (mX6_isSite x1 σ2) (fun r6 σ5 => if r6 = 0 then
   some ((-1000000001), σ5)
  else
   if x2 < 0 then
    some ((-1000000001), σ5)
   else
    if r3 = 0 then
     bnd (mX6_isWithin x3 0 4 σ5) (fun r12 σ11 => if r12 = 0 then
      some ((-1000000001), σ11)
     else
      mX6_stroke_b39 x1 x2 x3 r3 σ11)
    else
     mX6_stroke_b39 x1 x2 x3 r3 σ5))
def mX6_strokeAt_L62 : Nat → Int32 → Int32 → Int32 → St → Option (Int32 × St)
 | 0, _, _, _, _ => none
 | n + 1, x2, x3, x4, σ =>
  if x4 < 0 then
   some ((-1000000004), σ)
  else
   bnd (mX0_strokeIn 0 x4 σ) (fun r4 σ3 => bnd (mX1_hasPoint 0 r4 x2 x3 σ3) (fun r7 σ6 => if r7 = 0 then
    (mX6_strokeAt_L62 n) x2 x3 (x4 + (-1)) σ6
   else
    some (x4, σ6)))
def mX6_strokeAt (x1 x2 x3 : Int32) (σ : St) : Option (Int32 × St) :=
  bnd (mX6_isSite x1 σ) (fun r3 σ2 => if r3 = 0 then
   some ((-1000000001), σ2)
  else
   bnd (mX6_isWithin x2 (-100) 200 σ2) (fun r7 σ6 => if r7 = 0 then
    some ((-1000000001), σ6)
   else
    bnd (mX6_isWithin x3 (-100) 200 σ6) (fun r11 σ10 => if r11 = 0 then
     some ((-1000000001), σ10)
    else
     bnv (mX0_show 0 0 x1 σ10) (fun σ14 => bnd (mX0_strokeCount 0 σ14) (fun r17 σ16 => mX6_strokeAt_L62 fu x2 x3 (r17 - 1) σ16)))))
def mX6_digest (x1 : Int32) (σ : St) : Option (Int32 × St) :=
  bnd (mX6_isSite x1 σ) (fun r3 σ2 => if r3 = 0 then
   some (0, σ2)
  else
   bnv (mX0_show 0 0 x1 σ2) (fun σ6 => bnd (mX0_hash 0 σ6) (fun r9 σ8 => some (r9, σ8))))
def mX6_showSame (g : Nat) (x2 x3 : Int32) (σ : St) : Option (Int32 × St) :=
  bnv (mX0_show 0 g x2 σ) (fun σ2 => bnv (mX0_show 1 g x3 σ2) (fun σ4 => bnd (mX0_matches 0 1 σ4) (fun r7 σ6 => rz r7 σ6)))
def mX6_areSame (x1 x2 : Int32) (σ : St) : Option (Int32 × St) :=
  bnd (mX6_isSite x1 σ) (fun r3 σ2 => if r3 = 0 then
   some ((-1000000001), σ2)
  else
   bnd (mX6_isSite x2 σ2) (fun r7 σ6 => if r7 = 0 then
    some ((-1000000001), σ6)
   else
    bnd (mX6_showSame 0 x1 x2 σ6) (fun r11 σ10 => if r11 = 0 then
     some (0, σ10)
    else
     some (1, σ10))))
def mX6_lookAhead_L33 (k13 : Int32 → St → Option (St)) (k23 : Int32 → Int32 → St → Option (St)) : Nat → Int32 → Int32 → Int32 → St → Option (St)
 | 0, _, _, _, _ => none
 | n + 1, x1, x2, x3, σ =>
  bnd (mX3_countIn x1 x2 σ) (fun r3 σ2 => if r3 ≤ x3 then
   k23 x1 (x2 + 1) σ2
  else
   bnd (mX3_messageIn x1 x2 x3 σ2) (fun r7 σ6 => bnv (mX2_learn 1 x2 r7 σ6) (fun σ9 => (mX6_lookAhead_L33 k13 k23 n) x1 x2 (x3 + 1) σ9)))
def mX6_lookAhead_L23 (k13 : Int32 → St → Option (St)) : Nat → Int32 → Int32 → St → Option (St)
 | 0, _, _, _ => none
 | n + 1, x1, x2, σ =>
  if (σ 27 0) ≤ x2 then
   k13 (x1 + 1) σ
  else
   mX6_lookAhead_L33 k13 (mX6_lookAhead_L23 k13 n) fu x1 x2 0 σ
def mX6_lookAhead_L13 : Nat → Int32 → St → Option (St)
 | 0, _, _ => none
 | n + 1, x1, σ =>
  if (σ 27 0) ≤ x1 then
   some σ
  else
   mX6_lookAhead_L23 (mX6_lookAhead_L13 n) fu x1 0 σ
def mX6_lookAhead (σ : St) : Option (St) :=
  bnv (mX2_copyFrom 1 0 σ) (fun σ2 => mX6_lookAhead_L13 fu 0 σ2)
def mX6_differing_L20 (k8 : Int32 → Int32 → St → Option (Int32 × St)) : Nat → Int32 → Int32 → Int32 → St → Option (Int32 × St)
 | 0, _, _, _, _ => none
 | n + 1, x1, x2, x3, σ =>
  if (σ 27 0) ≤ x3 then
   k8 x1 (x2 + 1) σ
  else
   bnd (mX6_showSame 1 x2 x3 σ) (fun r4 σ3 => if r4 = 0 then
    (mX6_differing_L20 k8 n) (x1 + 1) x2 (x3 + 1) σ3
   else
    (mX6_differing_L20 k8 n) x1 x2 (x3 + 1) σ3)
def mX6_differing_L8 : Nat → Int32 → Int32 → St → Option (Int32 × St)
 | 0, _, _, _ => none
 | n + 1, x1, x2, σ =>
  if (σ 27 0) ≤ x2 then
   some (x1, σ)
  else
   mX6_differing_L20 (mX6_differing_L8 n) fu x1 x2 (x2 + 1) σ
def mX6_differing (σ : St) : Option (Int32 × St) :=
  bnv (mX6_lookAhead σ) (fun σ2 => mX6_differing_L8 fu 0 0 σ2)
def mX6_repairable_L5 : Nat → Int32 → Int32 → Int32 → Int32 → St → Option (Int32 × St)
 | 0, _, _, _, _, _ => none
 | n + 1, x1, x2, x3, x4, σ =>
  if 100 ≤ x4 then
   some (x3, σ)
  else
   bnd (mX6_canRepair x1 x2 x4 σ) (fun r4 σ3 => if r4 = 0 then
    (mX6_repairable_L5 n) x1 x2 x3 (x4 + 1) σ3
   else
    (mX6_repairable_L5 n) x1 x2 (x3 + 1) (x4 + 1) σ3)
def mX6_repairable (x1 x2 : Int32) (σ : St) : Option (Int32 × St) :=
  mX6_repairable_L5 fu x1 x2 0 0 σ
def mX6_bestHelper_L19 : Nat → Int32 → Int32 → Int32 → Int32 → St → Option (Int32 × St)
 | 0, _, _, _, _, _ => none
 | n + 1, x1, x2, x3, x4, σ =>
  if (σ 27 0) ≤ x4 then
   some (x2, σ)
  else
   bnd (mX6_repairable x1 x4 σ) (fun r4 σ3 => if r4 ≤ x3 then
    (mX6_bestHelper_L19 n) x1 x2 x3 (x4 + 1) σ3
   else
    (mX6_bestHelper_L19 n) x1 x4 r4 (x4 + 1) σ3)
def mX6_bestHelper (x1 : Int32) (σ : St) : Option (Int32 × St) :=
  bnd (mX6_isSite x1 σ) (fun r3 σ2 => if r3 = 0 then
   some ((-1000000001), σ2)
  else
   mX6_bestHelper_L19 fu x1 (-1000000004) 0 0 σ2)
def mX6_isKnownBeside_L2 : Nat → Int32 → Int32 → Int32 → St → Option (Int32 × St)
 | 0, _, _, _, _ => none
 | n + 1, x1, x2, x3, σ =>
  if (σ 27 0) ≤ x3 then
   rz 0 σ
  else
   if x3 = x1 then
    (mX6_isKnownBeside_L2 n) x1 x2 (x3 + 1) σ
   else
    bnd (mX2_has 0 x3 x2 σ) (fun r5 σ4 => if r5 = 0 then
     (mX6_isKnownBeside_L2 n) x1 x2 (x3 + 1) σ4
    else
     rz 1 σ4)
def mX6_isKnownBeside (x1 x2 : Int32) (σ : St) : Option (Int32 × St) :=
  mX6_isKnownBeside_L2 fu x1 x2 0 σ
def mX6_endangered_L15 : Nat → Int32 → Int32 → Int32 → St → Option (Int32 × St)
 | 0, _, _, _, _ => none
 | n + 1, x1, x2, x3, σ =>
  bnd (mX4_madeBy x1 σ) (fun r3 σ2 => if r3 < x3 then
   some (x2, σ2)
  else
   bnd (mX6_idOf x1 x3 σ2) (fun r7 σ6 => bnd (mX6_isKnownBeside x1 r7 σ6) (fun r10 σ9 => if r10 = 0 then
    bnd (mX3_carry r7 σ9) (fun r14 σ13 => if r14 = 0 then
     (mX6_endangered_L15 n) x1 (x2 + 1) (x3 + 1) σ13
    else
     (mX6_endangered_L15 n) x1 x2 (x3 + 1) σ13)
   else
    (mX6_endangered_L15 n) x1 x2 (x3 + 1) σ9)))
def mX6_endangered (x1 : Int32) (σ : St) : Option (Int32 × St) :=
  bnd (mX6_isSite x1 σ) (fun r3 σ2 => if r3 = 0 then
   some ((-1000000001), σ2)
  else
   mX6_endangered_L15 fu x1 0 1 σ2)
