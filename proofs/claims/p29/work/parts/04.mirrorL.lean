/-! The same of the methods of the law. -/
/-- a divisor that must not be 0 -/
def dz {β : Type} (y : Int32) (x : Option β) : Option β := if y = 0 then none else x
theorem dz_i {β : Type} {y : Int32} {x : Option β} {z : β} (h : dz y x = some z) : ¬ y = 0 ∧ x = some z := by
  unfold dz at h
  by_cases h1 : y = 0
  · rw [if_pos h1] at h; cases h
  · rw [if_neg h1] at h; exact ⟨h1, h⟩
/-- the remainder -/
def rmI (x y : Int32) : Int32 := x - x / y * y
def bni {β : Type} (o : Option Int32) (f : Int32 → Option β) : Option β := match o with
  | none => none
  | some q => f q
theorem bni_i {β : Type} {o : Option Int32} {f : Int32 → Option β} {y : β} (h : bni o f = some y) : ∃ a : Int32, o = some a ∧ f a = some y := by
  cases o with
  | none => cases h
  | some q => exact ⟨q, rfl, h⟩
theorem bni_s {β : Type} {a : Int32} {f : Int32 → Option β} : bni (some a) f = f a := rfl
/-- a cell of the script, or what stands for one behind its end -/
def mL_cell (xs : Nat → Int32) (L : Nat) (k : Int32) : Option Int32 := if Int32.ofNat L ≤ k then some (435606711 * (k + 1283) + 1091) else if k < 0 ∨ L ≤ k.toNatClampNeg then none else some (xs k.toNatClampNeg)
def mL_low (x0 x1 : Int32) (σ : St) : Option (Int32 × St) :=
  dz x1 (some ((rmI (x0 &&& (2147483647)) x1), σ))
def mL_sound_b185 (x1 x2 x3 : Int32) (σ : St) : Option (Int32 × St) :=
  bnd (mX6_endangered x1 σ) (fun r3 σ2 => bnd (mX6_siteInfo x1 0 σ2) (fun r6 σ5 => if r6 < x2 then
   rz 0 σ5
  else
   if 20 < x3 then
    rz 0 σ5
   else
    bnd (mX6_siteInfo x1 1 σ5) (fun r11 σ10 => if r11 < x3 then
     rz 0 σ10
    else
     bnd (mX6_gap x1 x1 0 σ10) (fun r15 σ14 => if r15 = (-1000000004) then
      if r3 < 0 then
       rz 0 σ14
      else
       if x3 < r3 then
        rz 0 σ14
       else
        bnd (mX6_bestHelper x1 σ14) (fun r21 σ20 => if r21 = x1 then
         rz 0 σ20
        else
         bnd (mX6_areSame x1 x1 σ20) (fun r25 σ24 => if r25 = 1 then
          rz 1 σ24
         else
          rz 0 σ24))
     else
      rz 0 σ14))))
def mL_sound_L82 : Nat → Int32 → Int32 → Int32 → Int32 → Int32 → St → Option (Int32 × St)
 | 0, _, _, _, _, _, _ => none
 | n + 1, x1, x2, x3, x5, x6, σ =>
  if x5 ≤ x6 then
   mL_sound_b185 x1 x2 x3 σ
  else
   bnd (mX6_stroke x1 x6 0 σ) (fun r4 σ3 => bnd (mX6_stroke x1 x6 1 σ3) (fun r7 σ6 => bnd (mX6_operation r4 r7 0 σ6) (fun r10 σ9 => if r10 = 0 then
    bnd (mX6_knows x1 r4 r7 σ9) (fun r14 σ13 => if r14 = 1 then
     bnd (mX6_stroke x1 x6 4 σ13) (fun r18 σ17 => bnd (mX6_operation r4 r7 3 σ17) (fun r21 σ20 => if r18 = r21 then
      bnd (mX6_stroke x1 x6 2 σ20) (fun r25 σ24 => if r25 < 0 then
       rz 0 σ24
      else
       bnd (mX6_stroke x1 x6 2 σ24) (fun r29 σ28 => if r29 ≤ 3 then
        (mL_sound_L82 n) x1 x2 x3 x5 (x6 + 1) σ28
       else
        rz 0 σ28))
     else
      rz 0 σ20))
    else
     rz 0 σ13)
   else
    rz 0 σ9)))
def mL_sound_b71 (x1 x2 x3 : Int32) (σ : St) : Option (Int32 × St) :=
  bnd (mX6_siteInfo x1 3 σ) (fun r3 σ2 => mL_sound_L82 fu x1 x2 x3 r3 0 σ2)
def mL_sound_L13 : Nat → Int32 → Int32 → Int32 → Int32 → Int32 → St → Option (Int32 × St)
 | 0, _, _, _, _, _, _ => none
 | n + 1, x1, x2, x3, x4, x5, σ =>
  if x3 < x5 then
   mL_sound_b71 x1 x2 x3 σ
  else
   bnd (mX6_operation x1 x5 1 σ) (fun r4 σ3 => bnd (mX6_knows x1 x1 x5 σ3) (fun r7 σ6 => if r7 = 1 then
    if r4 ≤ x4 then
     rz 0 σ6
    else
     bnd (mX6_siteInfo x1 0 σ6) (fun r12 σ11 => if r4 ≤ r12 then
      (mL_sound_L13 n) x1 x2 x3 r4 (x5 + 1) σ11
     else
      rz 0 σ11)
   else
    rz 0 σ6))
def mL_sound (x1 x2 : Int32) (σ : St) : Option (Int32 × St) :=
  bnd (mX6_siteInfo x1 2 σ) (fun r3 σ2 => mL_sound_L13 fu x1 x2 r3 0 1 σ2)
def mL_knowSame_L17 (k5 : Int32 → Int32 → Int32 → Int32 → St → Option (Int32 × St)) : Nat → Int32 → Int32 → Int32 → Int32 → Int32 → St → Option (Int32 × St)
 | 0, _, _, _, _, _, _ => none
 | n + 1, x1, x2, x3, x4, x5, σ =>
  bnd (mX6_siteInfo x4 2 σ) (fun r3 σ2 => if r3 < x5 then
   k5 x1 x2 x3 (x4 + 1) σ2
  else
   if x3 = 0 then
    (mL_knowSame_L17 k5 n) x1 x2 0 x4 (x5 + 1) σ2
   else
    bnd (mX6_knows x1 x4 x5 σ2) (fun r8 σ7 => bnd (mX6_knows x2 x4 x5 σ7) (fun r11 σ10 => if r8 = r11 then
     (mL_knowSame_L17 k5 n) x1 x2 1 x4 (x5 + 1) σ10
    else
     (mL_knowSame_L17 k5 n) x1 x2 0 x4 (x5 + 1) σ10)))
def mL_knowSame_L5 : Nat → Int32 → Int32 → Int32 → Int32 → St → Option (Int32 × St)
 | 0, _, _, _, _, _ => none
 | n + 1, x1, x2, x3, x4, σ =>
  bnd (mX6_sites σ) (fun r3 σ2 => if r3 ≤ x4 then
   rz x3 σ2
  else
   mL_knowSame_L17 (mL_knowSame_L5 n) fu x1 x2 x3 x4 1 σ2)
def mL_knowSame (x1 x2 : Int32) (σ : St) : Option (Int32 × St) :=
  mL_knowSame_L5 fu x1 x2 1 0 σ
def mL_pairs_b66 (k2 : Int32 → St → Option (Int32 × St)) (k12 : Int32 → Int32 → St → Option (Int32 × St)) (x1 x2 : Int32) (σ : St) : Option (Int32 × St) :=
  if x1 = x2 then
   k12 x1 (x2 + 1) σ
  else
   bnd (mX6_waiting x1 x2 σ) (fun r4 σ3 => if r4 < 0 then
    rz 0 σ3
   else
    bnd (mX6_waiting x1 x2 σ3) (fun r8 σ7 => if r8 ≤ 10 then
     k12 x1 (x2 + 1) σ7
    else
     rz 0 σ7))
def mL_pairs_b49 (k2 : Int32 → St → Option (Int32 × St)) (k12 : Int32 → Int32 → St → Option (Int32 × St)) (x1 x2 x3 : Int32) (σ : St) : Option (Int32 × St) :=
  if x3 = 0 then
   mL_pairs_b66 k2 k12 x1 x2 σ
  else
   bnd (mX6_digest x1 σ) (fun r4 σ3 => bnd (mX6_digest x2 σ3) (fun r7 σ6 => if r4 = r7 then
    mL_pairs_b66 k2 k12 x1 x2 σ6
   else
    rz 0 σ6))
def mL_pairs_b35 (k2 : Int32 → St → Option (Int32 × St)) (k12 : Int32 → Int32 → St → Option (Int32 × St)) (x1 x2 y0 : Int32) (σ : St) : Option (Int32 × St) :=
  bnd (mL_knowSame x1 x2 σ) (fun r3 σ2 => if r3 = 0 then
   mL_pairs_b49 k2 k12 x1 x2 y0 σ2
  else
   if y0 = 0 then
    rz 0 σ2
   else
    mL_pairs_b49 k2 k12 x1 x2 y0 σ2)
def mL_pairs_L12 (k2 : Int32 → St → Option (Int32 × St)) : Nat → Int32 → Int32 → St → Option (Int32 × St)
 | 0, _, _, _ => none
 | n + 1, x1, x2, σ =>
  bnd (mX6_sites σ) (fun r3 σ2 => if r3 ≤ x2 then
   k2 (x1 + 1) σ2
  else
   bnd (mX6_areSame x1 x2 σ2) (fun r7 σ6 => if r7 = 1 then
    mL_pairs_b35 k2 (mL_pairs_L12 k2 n) x1 x2 1 σ6
   else
    mL_pairs_b35 k2 (mL_pairs_L12 k2 n) x1 x2 0 σ6))
def mL_pairs_L2 : Nat → Int32 → St → Option (Int32 × St)
 | 0, _, _ => none
 | n + 1, x1, σ =>
  bnd (mX6_sites σ) (fun r3 σ2 => if r3 ≤ x1 then
   rz 1 σ2
  else
   mL_pairs_L12 (mL_pairs_L2 n) fu x1 0 σ2)
def mL_pairs (σ : St) : Option (Int32 × St) :=
  mL_pairs_L2 fu 0 σ
def mL_repairs_b153 (x1 x2 : Int32) (σ : St) : Option (Int32 × St) :=
  bnd (mX6_repair x1 x2 σ) (fun r3 σ2 => if r3 = 0 then
   rz 1 σ2
  else
   rz 0 σ2)
def mL_repairs_L99 (k57 : Int32 → Int32 → Int32 → St → Option (Int32 × St)) (k69 : Int32 → Int32 → Int32 → Int32 → St → Option (Int32 × St)) : Nat → Int32 → Int32 → Int32 → Int32 → Int32 → Int32 → St → Option (Int32 × St)
 | 0, _, _, _, _, _, _, _ => none
 | n + 1, x1, x2, x6, x7, x8, x9, σ =>
  if (x8 - x8 / 100 * 100) < x9 then
   k69 x1 x2 x6 (x7 + 1) σ
  else
   bnd (mX6_knows x1 x6 x9 σ) (fun r4 σ3 => if r4 = 0 then
    bnd (mX6_knows x2 x6 x9 σ3) (fun r8 σ7 => if r8 = 0 then
     (mL_repairs_L99 k57 k69 n) x1 x2 x6 x7 x8 (x9 + 1) σ7
    else
     rz 0 σ7)
   else
    rz 0 σ3)
def mL_repairs_L69 (k57 : Int32 → Int32 → Int32 → St → Option (Int32 × St)) : Nat → Int32 → Int32 → Int32 → Int32 → St → Option (Int32 × St)
 | 0, _, _, _, _, _ => none
 | n + 1, x1, x2, x6, x7, σ =>
  bnd (mX6_gap x1 x6 x7 σ) (fun r3 σ2 => if r3 < 0 then
   k57 x1 x2 (x6 + 1) σ2
  else
   bnd (mX6_gap x1 x6 x7 σ2) (fun r7 σ6 => mL_repairs_L99 k57 (mL_repairs_L69 k57 n) fu x1 x2 x6 x7 r7 (r7 / 100) σ6))
def mL_repairs_L57 : Nat → Int32 → Int32 → Int32 → St → Option (Int32 × St)
 | 0, _, _, _, _ => none
 | n + 1, x1, x2, x6, σ =>
  bnd (mX6_sites σ) (fun r3 σ2 => if r3 ≤ x6 then
   mL_repairs_b153 x1 x2 σ2
  else
   mL_repairs_L69 (mL_repairs_L57 n) fu x1 x2 x6 0 σ2)
def mL_repairs (x1 x2 : Int32) (σ : St) : Option (Int32 × St) :=
  bnd (mX6_siteInfo x1 1 σ) (fun r3 σ2 => bnd (mX6_bestHelper x1 σ2) (fun r6 σ5 => bnd (mX6_repair x1 x2 σ5) (fun r9 σ8 => if r9 < 0 then
   rz 0 σ8
  else
   bnd (mX6_siteInfo x1 1 σ8) (fun r13 σ12 => if r13 = (r3 + r9) then
    if r6 = (-1000000004) then
     if r9 ≤ 0 then
      mL_repairs_L57 fu x1 x2 0 σ12
     else
      rz 0 σ12
    else
     mL_repairs_L57 fu x1 x2 0 σ12
   else
    rz 0 σ12))))
def mL_transfers_b176 (x1 x2 : Int32) (σ : St) : Option (Int32 × St) :=
  bnd (mX6_transfer x1 x2 σ) (fun r3 σ2 => if r3 = 0 then
   rz 1 σ2
  else
   rz 0 σ2)
def mL_transfers_L124 (k112 : Int32 → Int32 → Int32 → St → Option (Int32 × St)) : Nat → Int32 → Int32 → Int32 → Int32 → St → Option (Int32 × St)
 | 0, _, _, _, _, _ => none
 | n + 1, x1, x2, x4, x5, σ =>
  bnd (mX6_siteInfo x4 2 σ) (fun r3 σ2 => if r3 < x5 then
   k112 x1 x2 (x4 + 1) σ2
  else
   bnd (mX6_knows x2 x4 x5 σ2) (fun r7 σ6 => if r7 = 1 then
    bnd (mX6_knows x1 x4 x5 σ6) (fun r11 σ10 => if r11 = 1 then
     (mL_transfers_L124 k112 n) x1 x2 x4 (x5 + 1) σ10
    else
     rz 0 σ10)
   else
    (mL_transfers_L124 k112 n) x1 x2 x4 (x5 + 1) σ6))
def mL_transfers_L112 : Nat → Int32 → Int32 → Int32 → St → Option (Int32 × St)
 | 0, _, _, _, _ => none
 | n + 1, x1, x2, x4, σ =>
  bnd (mX6_sites σ) (fun r3 σ2 => if r3 ≤ x4 then
   mL_transfers_b176 x1 x2 σ2
  else
   mL_transfers_L124 (mL_transfers_L112 n) fu x1 x2 x4 1 σ2)
def mL_transfers_b82 (x1 x2 x3 : Int32) (σ : St) : Option (Int32 × St) :=
  bnd (mX6_transfer x1 x2 σ) (fun r3 σ2 => if r3 = x3 then
   bnd (mX6_siteInfo x1 0 σ2) (fun r7 σ6 => bnd (mX6_siteInfo x2 0 σ6) (fun r10 σ9 => if r10 ≤ r7 then
    mL_transfers_L112 fu x1 x2 0 σ9
   else
    rz 0 σ9))
  else
   rz 0 σ2)
def mL_transfers_L17 (k5 : Int32 → Int32 → Int32 → Int32 → St → Option (Int32 × St)) : Nat → Int32 → Int32 → Int32 → Int32 → Int32 → St → Option (Int32 × St)
 | 0, _, _, _, _, _, _ => none
 | n + 1, x1, x2, x3, x4, x5, σ =>
  bnd (mX6_siteInfo x4 2 σ) (fun r3 σ2 => if r3 < x5 then
   k5 x1 x2 x3 (x4 + 1) σ2
  else
   bnd (mX6_knows x2 x4 x5 σ2) (fun r7 σ6 => if r7 = 1 then
    bnd (mX6_knows x1 x4 x5 σ6) (fun r11 σ10 => if r11 = 0 then
     bnd (mX6_operation x4 x5 2 σ10) (fun r15 σ14 => (mL_transfers_L17 k5 n) x1 x2 (x3 + r15) x4 (x5 + 1) σ14)
    else
     (mL_transfers_L17 k5 n) x1 x2 (x3 + 0) x4 (x5 + 1) σ10)
   else
    (mL_transfers_L17 k5 n) x1 x2 (x3 + 0) x4 (x5 + 1) σ6))
def mL_transfers_L5 : Nat → Int32 → Int32 → Int32 → Int32 → St → Option (Int32 × St)
 | 0, _, _, _, _, _ => none
 | n + 1, x1, x2, x3, x4, σ =>
  bnd (mX6_sites σ) (fun r3 σ2 => if r3 ≤ x4 then
   mL_transfers_b82 x1 x2 x3 σ2
  else
   mL_transfers_L17 (mL_transfers_L5 n) fu x1 x2 x3 x4 1 σ2)
def mL_transfers (x1 x2 : Int32) (σ : St) : Option (Int32 × St) :=
  mL_transfers_L5 fu x1 x2 0 0 σ
def mL_turns_b53 (x1 x2 x3 : Int32) (σ : St) : Option (Int32 × St) :=
  bnd (mX6_digest x1 σ) (fun r3 σ2 => if r3 = x2 then
   bnd (mX6_siteInfo x1 2 σ2) (fun r7 σ6 => if r7 = x3 then
    rz 1 σ6
   else
    rz 0 σ6)
  else
   rz 0 σ2)
def mL_turns (x1 : Int32) (σ : St) : Option (Int32 × St) :=
  bnd (mX6_digest x1 σ) (fun r3 σ2 => bnd (mX6_siteInfo x1 2 σ2) (fun r6 σ5 => bnd (mX6_siteInfo x1 3 σ5) (fun r9 σ8 => bnd (mX6_undo x1 σ8) (fun r12 σ11 => if 0 ≤ r12 then
   bnd (mX6_siteInfo x1 3 σ11) (fun r16 σ15 => if r16 = (r9 - 1) then
    bnd (mX6_operation x1 (r6 + 1) 0 σ15) (fun r20 σ19 => if r20 = 1 then
     bnd (mX6_operation x1 (r6 + 1) 3 σ19) (fun r24 σ23 => if r24 = r12 then
      bnd (mX6_redo x1 σ23) (fun r28 σ27 => if r6 = 19 then
       if r28 = (-1000000003) then
        rz 1 σ27
       else
        rz 0 σ27
      else
       if r28 = r12 then
        bnd (mX6_digest x1 σ27) (fun r33 σ32 => if r33 = r3 then
         bnd (mX6_siteInfo x1 3 σ32) (fun r37 σ36 => if r37 = r9 then
          rz 1 σ36
         else
          rz 0 σ36)
        else
         rz 0 σ32)
       else
        rz 0 σ27)
     else
      rz 0 σ23)
    else
     rz 0 σ19)
   else
    rz 0 σ15)
  else
   if r12 = (-1000000002) then
    mL_turns_b53 x1 r3 r6 σ11
   else
    if r12 = (-1000000003) then
     if r6 = 20 then
      mL_turns_b53 x1 r3 r6 σ11
     else
      rz 0 σ11
    else
     rz 0 σ11))))
def mL_refuses_b462 (x2 x3 x4 : Int32) (σ : St) : Option (Int32 × St) :=
  if x3 = 0 then
   rz 0 σ
  else
   if x4 = x2 then
    rz 1 σ
   else
    rz 0 σ
def mL_refuses_L406 : Nat → Int32 → Int32 → Int32 → Int32 → Int32 → St → Option (Int32 × St)
 | 0, _, _, _, _, _, _ => none
 | n + 1, x1, x2, x3, x4, x5, σ =>
  if x1 ≤ x5 then
   mL_refuses_b462 x2 x3 x4 σ
  else
   bnd (mX6_digest x5 σ) (fun r4 σ3 => bnd (mX6_siteInfo x5 0 σ3) (fun r7 σ6 => bnd (mX6_siteInfo x5 1 σ6) (fun r10 σ9 => bnd (mX6_siteInfo x5 4 σ9) (fun r13 σ12 => lti (((((31 * x4) + r4) + (7 * r7)) + r10) + (100 * r13)) (fun z14 => (mL_refuses_L406 n) x1 x2 x3 z14 (x5 + 1) σ12)))))
def mL_refuses_b207 (x1 x2 y0 : Int32) (σ : St) : Option (Int32 × St) :=
  if y0 = 0 then
   mL_refuses_L406 fu x1 x2 0 0 0 σ
  else
   bnd (mX6_deliver 0 x1 σ) (fun r4 σ3 => if r4 = (-1000000001) then
    bnd (mX6_lose x1 0 σ3) (fun r8 σ7 => if r8 = (-1000000001) then
     bnd (mX6_waiting 0 0 σ7) (fun r12 σ11 => if r12 = (-1000000001) then
      bnd (mX6_gap 0 x1 0 σ11) (fun r16 σ15 => if r16 = (-1000000001) then
       bnd (mX6_repair 0 0 σ15) (fun r20 σ19 => if r20 = (-1000000001) then
        bnd (mX6_transfer 0 x1 σ19) (fun r24 σ23 => if r24 = (-1000000001) then
         bnd (mX6_operation x1 1 0 σ23) (fun r28 σ27 => if r28 = (-1000000001) then
          bnd (mX6_operation 0 21 0 σ27) (fun r32 σ31 => if r32 = (-1000000004) then
           bnd (mX6_knows 0 0 21 σ31) (fun r36 σ35 => if r36 = (-1000000004) then
            bnd (mX6_stroke x1 0 0 σ35) (fun r40 σ39 => if r40 = (-1000000001) then
             bnd (mX6_stroke 0 100 0 σ39) (fun r44 σ43 => if r44 = (-1000000004) then
              bnd (mX6_strokeAt 0 (-101) 0 σ43) (fun r48 σ47 => if r48 = (-1000000001) then
               bnd (mX6_digest (-1) σ47) (fun r52 σ51 => if r52 = 0 then
                bnd (mX6_areSame x1 0 σ51) (fun r56 σ55 => if r56 = (-1000000001) then
                 bnd (mX6_bestHelper (-1) σ55) (fun r60 σ59 => if r60 = (-1000000001) then
                  bnd (mX6_endangered x1 σ59) (fun r64 σ63 => if r64 = (-1000000001) then
                   mL_refuses_L406 fu x1 x2 1 0 0 σ63
                  else
                   mL_refuses_L406 fu x1 x2 0 0 0 σ63)
                 else
                  mL_refuses_L406 fu x1 x2 0 0 0 σ59)
                else
                 mL_refuses_L406 fu x1 x2 0 0 0 σ55)
               else
                mL_refuses_L406 fu x1 x2 0 0 0 σ51)
              else
               mL_refuses_L406 fu x1 x2 0 0 0 σ47)
             else
              mL_refuses_L406 fu x1 x2 0 0 0 σ43)
            else
             mL_refuses_L406 fu x1 x2 0 0 0 σ39)
           else
            mL_refuses_L406 fu x1 x2 0 0 0 σ35)
          else
           mL_refuses_L406 fu x1 x2 0 0 0 σ31)
         else
          mL_refuses_L406 fu x1 x2 0 0 0 σ27)
        else
         mL_refuses_L406 fu x1 x2 0 0 0 σ23)
       else
        mL_refuses_L406 fu x1 x2 0 0 0 σ19)
      else
       mL_refuses_L406 fu x1 x2 0 0 0 σ15)
     else
      mL_refuses_L406 fu x1 x2 0 0 0 σ11)
    else
     mL_refuses_L406 fu x1 x2 0 0 0 σ7)
   else
    mL_refuses_L406 fu x1 x2 0 0 0 σ3)
def mL_refuses_b206 (x1 x2 : Int32) (σ : St) : Option (Int32 × St) :=
  mL_refuses_b207 x1 x2 0 σ
def mL_refuses_b58 (x1 x2 : Int32) (σ : St) : Option (Int32 × St) :=
  bnd (mX6_reset 6 σ) (fun r3 σ2 => if r3 = (-1000000001) then
   bnd (mX6_siteInfo x1 0 σ2) (fun r7 σ6 => if r7 = (-1000000001) then
    bnd (mX6_siteInfo 0 (-1) σ6) (fun r11 σ10 => if r11 = (-1000000001) then
     bnd (mX6_penDown x1 0 0 0 0 σ10) (fun r15 σ14 => if r15 = (-1000000001) then
      bnd (mX6_penDown 0 0 64 0 0 σ14) (fun r19 σ18 => if r19 = (-1000000001) then
       bnd (mX6_penDown 0 0 0 0 4 σ18) (fun r23 σ22 => if r23 = (-1000000001) then
        bnd (mX6_penMove 0 0 (-9) σ22) (fun r27 σ26 => if r27 = (-1000000001) then
         bnd (mX6_penUp x1 σ26) (fun r31 σ30 => if r31 = (-1000000001) then
          bnd (mX6_undo (-1) σ30) (fun r35 σ34 => if r35 = (-1000000001) then
           bnd (mX6_redo x1 σ34) (fun r39 σ38 => if r39 = (-1000000001) then
            bnd (mX6_lift x1 0 0 σ38) (fun r43 σ42 => if r43 = (-1000000001) then
             bnd (mX6_lift 0 100 0 σ42) (fun r47 σ46 => if r47 = (-1000000002) then
              mL_refuses_b207 x1 x2 1 σ46
             else
              mL_refuses_b206 x1 x2 σ46)
            else
             mL_refuses_b206 x1 x2 σ42)
           else
            mL_refuses_b206 x1 x2 σ38)
          else
           mL_refuses_b206 x1 x2 σ34)
         else
          mL_refuses_b206 x1 x2 σ30)
        else
         mL_refuses_b206 x1 x2 σ26)
       else
        mL_refuses_b206 x1 x2 σ22)
      else
       mL_refuses_b206 x1 x2 σ18)
     else
      mL_refuses_b206 x1 x2 σ14)
    else
     mL_refuses_b206 x1 x2 σ10)
   else
    mL_refuses_b206 x1 x2 σ6)
  else
   mL_refuses_b206 x1 x2 σ2)
def mL_refuses_L9 : Nat → Int32 → Int32 → Int32 → St → Option (Int32 × St)
 | 0, _, _, _, _ => none
 | n + 1, x1, x2, x3, σ =>
  if x1 ≤ x3 then
   mL_refuses_b58 x1 x2 σ
  else
   bnd (mX6_digest x3 σ) (fun r4 σ3 => bnd (mX6_siteInfo x3 0 σ3) (fun r7 σ6 => bnd (mX6_siteInfo x3 1 σ6) (fun r10 σ9 => bnd (mX6_siteInfo x3 4 σ9) (fun r13 σ12 => lti (((((31 * x2) + r4) + (7 * r7)) + r10) + (100 * r13)) (fun z14 => (mL_refuses_L9 n) x1 z14 (x3 + 1) σ12)))))
def mL_refuses (σ : St) : Option (Int32 × St) :=
  bnd (mX6_sites σ) (fun r3 σ2 => mL_refuses_L9 fu r3 0 0 σ2)
def mL_law_b890 (xs : Nat → Int32) (L : Nat) (σ : St) : Option (Int32 × St) :=
  bnd (mL_pairs σ) (fun r3 σ2 => if r3 = 0 then
   rz 0 σ2
  else
   bnd (mL_refuses σ2) (fun r7 σ6 => if r7 = 0 then
    rz 0 σ6
   else
    rz 1 σ6))
def mL_law_b869 (xs : Nat → Int32) (L : Nat) (x3 x4 x5 x6 : Int32) (σ : St) : Option (Int32 × St) :=
  if x5 < 0 then
   rz 0 σ
  else
   if x4 = x6 then
    if x3 = 0 then
     if x6 = 0 then
      mL_law_b890 xs L σ
     else
      rz 0 σ
    else
     mL_law_b890 xs L σ
   else
    rz 0 σ
def mL_law_L835 (xs : Nat → Int32) (L : Nat) (k826 : Int32 → Int32 → Int32 → Int32 → Int32 → Int32 → St → Option (Int32 × St)) : Nat → Int32 → Int32 → Int32 → Int32 → Int32 → Int32 → Int32 → St → Option (Int32 × St)
 | 0, _, _, _, _, _, _, _, _ => none
 | n + 1, x2, x3, x4, x5, x6, x7, x8, σ =>
  if x7 ≤ x8 then
   k826 x2 x3 x4 x5 x6 (x7 + 1) σ
  else
   bnd (mX6_areSame x7 x8 σ) (fun r4 σ3 => (mL_law_L835 xs L k826 n) x2 x3 x4 x5 (x6 + (1 - r4)) x7 (x8 + 1) σ3)
def mL_law_L826 (xs : Nat → Int32) (L : Nat) : Nat → Int32 → Int32 → Int32 → Int32 → Int32 → Int32 → St → Option (Int32 × St)
 | 0, _, _, _, _, _, _, _ => none
 | n + 1, x2, x3, x4, x5, x6, x7, σ =>
  if x2 ≤ x7 then
   mL_law_b869 xs L x3 x4 x5 x6 σ
  else
   mL_law_L835 xs L (mL_law_L826 xs L n) fu x2 x3 x4 x5 x6 x7 0 σ
def mL_law_b808 (xs : Nat → Int32) (L : Nat) (x2 x3 : Int32) (σ : St) : Option (Int32 × St) :=
  bnd (mX6_differing σ) (fun r3 σ2 => bnd (mX6_deliverAll σ2) (fun r6 σ5 => mL_law_L826 xs L fu x2 x3 r3 r6 0 0 σ5))
def mL_law_b766 (xs : Nat → Int32) (L : Nat) (k57 : Int32 → Int32 → Int32 → St → Option (Int32 × St)) (x2 x3 x4 x6 x9 x11 : Int32) (σ : St) : Option (Int32 × St) :=
  if x11 = 0 then
   rz 0 σ
  else
   bnd (mL_sound x6 x9 σ) (fun r4 σ3 => if r4 = 0 then
    rz 0 σ3
   else
    bnd (mL_pairs σ3) (fun r8 σ7 => if r8 = 0 then
     rz 0 σ7
    else
     if x3 = 0 then
      bnd (mX6_differing σ7) (fun r13 σ12 => if r13 = 0 then
       k57 x2 x3 (x4 + 1) σ12
      else
       rz 0 σ12)
     else
      k57 x2 x3 (x4 + 1) σ7))
def mL_law_b764 (xs : Nat → Int32) (L : Nat) (k57 : Int32 → Int32 → Int32 → St → Option (Int32 × St)) (x2 x3 x4 x6 x9 y0 : Int32) (σ : St) : Option (Int32 × St) :=
  mL_law_b766 xs L k57 x2 x3 x4 x6 x9 y0 σ
def mL_law_b709 (xs : Nat → Int32) (L : Nat) (k57 : Int32 → Int32 → Int32 → St → Option (Int32 × St)) (x2 x3 x4 x6 x7 x8 x9 x11 : Int32) (σ : St) : Option (Int32 × St) :=
  if x6 = x7 then
   mL_law_b766 xs L k57 x2 x3 x4 x6 x9 x11 σ
  else
   if x8 = 11 then
    bnd (mL_repairs x6 x7 σ) (fun r13 σ12 => mL_law_b764 xs L k57 x2 x3 x4 x6 x9 r13 σ12)
   else
    if x8 = 12 then
     bnd (mL_transfers x6 x7 σ) (fun r10 σ9 => mL_law_b764 xs L k57 x2 x3 x4 x6 x9 r10 σ9)
    else
     bnd (mX6_deliverAll σ) (fun r6 σ5 => if r6 < 0 then
      mL_law_b764 xs L k57 x2 x3 x4 x6 x9 0 σ5
     else
      mL_law_b764 xs L k57 x2 x3 x4 x6 x9 1 σ5)
def mL_law_b705 (xs : Nat → Int32) (L : Nat) (k57 : Int32 → Int32 → Int32 → St → Option (Int32 × St)) (x2 x4 x6 x9 x11 y0 : Int32) (σ : St) : Option (Int32 × St) :=
  mL_law_b766 xs L k57 x2 y0 x4 x6 x9 x11 σ
def mL_law_b704 (xs : Nat → Int32) (L : Nat) (k57 : Int32 → Int32 → Int32 → St → Option (Int32 × St)) (x2 x4 x6 x9 x11 : Int32) (σ : St) : Option (Int32 × St) :=
  mL_law_b705 xs L k57 x2 x4 x6 x9 x11 0 σ
def mL_law_b700 (xs : Nat → Int32) (L : Nat) (k57 : Int32 → Int32 → Int32 → St → Option (Int32 × St)) (x2 x4 x6 x9 x11 : Int32) (σ : St) : Option (Int32 × St) :=
  mL_law_b705 xs L k57 x2 x4 x6 x9 x11 1 σ
def mL_law_b682 (xs : Nat → Int32) (L : Nat) (k57 : Int32 → Int32 → Int32 → St → Option (Int32 × St)) (x2 x3 x4 x6 x8 x9 x12 y0 : Int32) (σ : St) : Option (Int32 × St) :=
  if x3 = 0 then
   if x8 = 8 then
    if x12 ≤ 0 then
     mL_law_b704 xs L k57 x2 x4 x6 x9 y0 σ
    else
     mL_law_b700 xs L k57 x2 x4 x6 x9 y0 σ
   else
    mL_law_b704 xs L k57 x2 x4 x6 x9 y0 σ
  else
   mL_law_b700 xs L k57 x2 x4 x6 x9 y0 σ
def mL_law_b681 (xs : Nat → Int32) (L : Nat) (k57 : Int32 → Int32 → Int32 → St → Option (Int32 × St)) (x2 x3 x4 x6 x8 x9 x12 : Int32) (σ : St) : Option (Int32 × St) :=
  mL_law_b682 xs L k57 x2 x3 x4 x6 x8 x9 x12 0 σ
def mL_law_b589 (xs : Nat → Int32) (L : Nat) (k57 : Int32 → Int32 → Int32 → St → Option (Int32 × St)) (x2 x3 x4 x6 x7 x8 x9 x12 y0 : Int32) (σ : St) : Option (Int32 × St) :=
  if x12 = 0 then
   if y0 = (-1000000004) then
    mL_law_b682 xs L k57 x2 x3 x4 x6 x8 x9 x12 1 σ
   else
    mL_law_b682 xs L k57 x2 x3 x4 x6 x8 x9 x12 0 σ
  else
   if x8 = 8 then
    if y0 = (x12 - 1) then
     mL_law_b682 xs L k57 x2 x3 x4 x6 x8 x9 x12 1 σ
    else
     mL_law_b682 xs L k57 x2 x3 x4 x6 x8 x9 x12 0 σ
   else
    if (y0 / 100) = x6 then
     bnd (mX6_knows x7 x6 (y0 - y0 / 100 * 100) σ) (fun r6 σ5 => if r6 = 1 then
      bnd (mX6_waiting x6 x7 σ5) (fun r10 σ9 => if r10 = (x12 - 1) then
       mL_law_b682 xs L k57 x2 x3 x4 x6 x8 x9 x12 1 σ9
      else
       mL_law_b681 xs L k57 x2 x3 x4 x6 x8 x9 x12 σ9)
     else
      mL_law_b681 xs L k57 x2 x3 x4 x6 x8 x9 x12 σ5)
    else
     mL_law_b681 xs L k57 x2 x3 x4 x6 x8 x9 x12 σ
def mL_law_b535 (xs : Nat → Int32) (L : Nat) (k57 : Int32 → Int32 → Int32 → St → Option (Int32 × St)) (x2 x4 x6 x9 x11 y0 : Int32) (σ : St) : Option (Int32 × St) :=
  mL_law_b766 xs L k57 x2 y0 x4 x6 x9 x11 σ
def mL_law_b530 (xs : Nat → Int32) (L : Nat) (k57 : Int32 → Int32 → Int32 → St → Option (Int32 × St)) (x2 x4 x6 x9 x11 : Int32) (σ : St) : Option (Int32 × St) :=
  mL_law_b535 xs L k57 x2 x4 x6 x9 x11 1 σ
def mL_law_b519 (xs : Nat → Int32) (L : Nat) (k57 : Int32 → Int32 → Int32 → St → Option (Int32 × St)) (x2 x3 x4 x6 x9 x10 y0 : Int32) (σ : St) : Option (Int32 × St) :=
  if x3 = 0 then
   if x10 ≤ 0 then
    mL_law_b535 xs L k57 x2 x4 x6 x9 y0 0 σ
   else
    mL_law_b530 xs L k57 x2 x4 x6 x9 y0 σ
  else
   mL_law_b530 xs L k57 x2 x4 x6 x9 y0 σ
def mL_law_b514 (xs : Nat → Int32) (L : Nat) (k57 : Int32 → Int32 → Int32 → St → Option (Int32 × St)) (x2 x3 x4 x6 x9 x10 : Int32) (σ : St) : Option (Int32 × St) :=
  mL_law_b519 xs L k57 x2 x3 x4 x6 x9 x10 1 σ
def mL_law_b476 (xs : Nat → Int32) (L : Nat) (k57 : Int32 → Int32 → Int32 → St → Option (Int32 × St)) (x2 x4 x6 x9 x11 y0 : Int32) (σ : St) : Option (Int32 × St) :=
  mL_law_b766 xs L k57 x2 y0 x4 x6 x9 x11 σ
def mL_law_b471 (xs : Nat → Int32) (L : Nat) (k57 : Int32 → Int32 → Int32 → St → Option (Int32 × St)) (x2 x4 x6 x9 x11 : Int32) (σ : St) : Option (Int32 × St) :=
  mL_law_b476 xs L k57 x2 x4 x6 x9 x11 1 σ
def mL_law_b460 (xs : Nat → Int32) (L : Nat) (k57 : Int32 → Int32 → Int32 → St → Option (Int32 × St)) (x2 x3 x4 x6 x9 x10 y0 : Int32) (σ : St) : Option (Int32 × St) :=
  if x3 = 0 then
   if x10 ≤ 0 then
    mL_law_b476 xs L k57 x2 x4 x6 x9 y0 0 σ
   else
    mL_law_b471 xs L k57 x2 x4 x6 x9 y0 σ
  else
   mL_law_b471 xs L k57 x2 x4 x6 x9 y0 σ
def mL_law_b455 (xs : Nat → Int32) (L : Nat) (k57 : Int32 → Int32 → Int32 → St → Option (Int32 × St)) (x2 x3 x4 x6 x9 x10 : Int32) (σ : St) : Option (Int32 × St) :=
  mL_law_b460 xs L k57 x2 x3 x4 x6 x9 x10 1 σ
def mL_law_b399 (xs : Nat → Int32) (L : Nat) (k57 : Int32 → Int32 → Int32 → St → Option (Int32 × St)) (x2 x4 x6 x9 x11 y0 : Int32) (σ : St) : Option (Int32 × St) :=
  mL_law_b766 xs L k57 x2 y0 x4 x6 x9 x11 σ
def mL_law_b394 (xs : Nat → Int32) (L : Nat) (k57 : Int32 → Int32 → Int32 → St → Option (Int32 × St)) (x2 x4 x6 x9 x11 : Int32) (σ : St) : Option (Int32 × St) :=
  mL_law_b399 xs L k57 x2 x4 x6 x9 x11 1 σ
def mL_law_b367 (xs : Nat → Int32) (L : Nat) (k57 : Int32 → Int32 → Int32 → St → Option (Int32 × St)) (x2 x4 x6 x9 x11 y0 : Int32) (σ : St) : Option (Int32 × St) :=
  mL_law_b766 xs L k57 x2 y0 x4 x6 x9 x11 σ
def mL_law_b362 (xs : Nat → Int32) (L : Nat) (k57 : Int32 → Int32 → Int32 → St → Option (Int32 × St)) (x2 x4 x6 x9 x11 : Int32) (σ : St) : Option (Int32 × St) :=
  mL_law_b367 xs L k57 x2 x4 x6 x9 x11 1 σ
def mL_law_b351 (xs : Nat → Int32) (L : Nat) (k57 : Int32 → Int32 → Int32 → St → Option (Int32 × St)) (x2 x3 x4 x6 x9 x10 y0 : Int32) (σ : St) : Option (Int32 × St) :=
  if x3 = 0 then
   if x10 ≤ 0 then
    mL_law_b367 xs L k57 x2 x4 x6 x9 y0 0 σ
   else
    mL_law_b362 xs L k57 x2 x4 x6 x9 y0 σ
  else
   mL_law_b362 xs L k57 x2 x4 x6 x9 y0 σ
def mL_law_b350 (xs : Nat → Int32) (L : Nat) (k57 : Int32 → Int32 → Int32 → St → Option (Int32 × St)) (x2 x3 x4 x6 x9 x10 : Int32) (σ : St) : Option (Int32 × St) :=
  mL_law_b351 xs L k57 x2 x3 x4 x6 x9 x10 0 σ
def mL_law_b346 (xs : Nat → Int32) (L : Nat) (k57 : Int32 → Int32 → Int32 → St → Option (Int32 × St)) (x2 x3 x4 x6 x9 x10 : Int32) (σ : St) : Option (Int32 × St) :=
  mL_law_b351 xs L k57 x2 x3 x4 x6 x9 x10 1 σ
def mL_law_b309 (xs : Nat → Int32) (L : Nat) (k57 : Int32 → Int32 → Int32 → St → Option (Int32 × St)) (x2 x3 x4 x6 x9 x10 x11 : Int32) (σ : St) : Option (Int32 × St) :=
  bnd (mX6_penUp x6 σ) (fun r3 σ2 => if x11 = 0 then
   mL_law_b350 xs L k57 x2 x3 x4 x6 x9 x10 σ2
  else
   if 0 < r3 then
    mL_law_b346 xs L k57 x2 x3 x4 x6 x9 x10 σ2
   else
    if r3 = (-1000000003) then
     bnd (mX6_siteInfo x6 2 σ2) (fun r9 σ8 => if r9 = 20 then
      mL_law_b346 xs L k57 x2 x3 x4 x6 x9 x10 σ8
     else
      mL_law_b350 xs L k57 x2 x3 x4 x6 x9 x10 σ8)
    else
     mL_law_b350 xs L k57 x2 x3 x4 x6 x9 x10 σ2)
def mL_law_L234 (xs : Nat → Int32) (L : Nat) (k57 : Int32 → Int32 → Int32 → St → Option (Int32 × St)) : Nat → Int32 → Int32 → Int32 → Int32 → Int32 → Int32 → Int32 → Int32 → Int32 → St → Option (Int32 × St)
 | 0, _, _, _, _, _, _, _, _, _, _ => none
 | n + 1, x2, x3, x4, x5, x6, x9, x10, x11, x12, σ =>
  bnd (mL_low (x5 >>> (18 &&& 31)) 4 σ) (fun r3 σ2 => if r3 ≤ x12 then
   mL_law_b309 xs L k57 x2 x3 x4 x6 x9 x10 x11 σ2
  else
   if x11 = 0 then
    (mL_law_L234 xs L k57 n) x2 x3 x4 x5 x6 x9 x10 0 (x12 + 1) σ2
   else
    bnd (mL_low (x5 >>> ((20 + x12) &&& 31)) 17 σ2) (fun r8 σ7 => bnd (mL_low (x5 >>> ((22 + x12) &&& 31)) 5 σ7) (fun r11 σ10 => bnd (mX6_penMove x6 (r8 - 8) (r11 - 2) σ10) (fun r14 σ13 => if r14 = (x12 + 2) then
     (mL_law_L234 xs L k57 n) x2 x3 x4 x5 x6 x9 x10 1 (x12 + 1) σ13
    else
     (mL_law_L234 xs L k57 n) x2 x3 x4 x5 x6 x9 x10 0 (x12 + 1) σ13))))
def mL_law_b168 (xs : Nat → Int32) (L : Nat) (k57 : Int32 → Int32 → Int32 → St → Option (Int32 × St)) (x2 x3 x4 x5 x6 x7 x8 x9 x10 : Int32) (σ : St) : Option (Int32 × St) :=
  if 5 ≤ x8 then
   if x8 = 5 then
    bnd (mL_turns x6 σ) (fun r37 σ36 => if x3 = 0 then
     if x10 ≤ 0 then
      mL_law_b399 xs L k57 x2 x4 x6 x9 r37 0 σ36
     else
      mL_law_b394 xs L k57 x2 x4 x6 x9 r37 σ36
    else
     mL_law_b394 xs L k57 x2 x4 x6 x9 r37 σ36)
   else
    if x8 = 6 then
     bnd (mL_low (x5 >>> (9 &&& 31)) 3 σ) (fun r25 σ24 => bnd (mL_low (x5 >>> (12 &&& 31)) 4 σ24) (fun r28 σ27 => bnd (mX6_lift x6 r25 r28 σ27) (fun r31 σ30 => if 0 < r31 then
      mL_law_b455 xs L k57 x2 x3 x4 x6 x9 x10 σ30
     else
      if r31 = (-1000000002) then
       mL_law_b455 xs L k57 x2 x3 x4 x6 x9 x10 σ30
      else
       if r31 = (-1000000003) then
        mL_law_b455 xs L k57 x2 x3 x4 x6 x9 x10 σ30
       else
        mL_law_b460 xs L k57 x2 x3 x4 x6 x9 x10 0 σ30)))
    else
     if x8 = 7 then
      bnd (mX6_redo x6 σ) (fun r19 σ18 => if 0 < r19 then
       mL_law_b514 xs L k57 x2 x3 x4 x6 x9 x10 σ18
      else
       if r19 = (-1000000002) then
        mL_law_b514 xs L k57 x2 x3 x4 x6 x9 x10 σ18
       else
        if r19 = (-1000000003) then
         mL_law_b514 xs L k57 x2 x3 x4 x6 x9 x10 σ18
        else
         mL_law_b519 xs L k57 x2 x3 x4 x6 x9 x10 0 σ18)
     else
      if x6 = x7 then
       mL_law_b709 xs L k57 x2 x3 x4 x6 x7 x8 x9 1 σ
      else
       if 11 ≤ x8 then
        mL_law_b709 xs L k57 x2 x3 x4 x6 x7 x8 x9 1 σ
       else
        bnd (mX6_waiting x6 x7 σ) (fun r9 σ8 => if x8 = 8 then
         bnd (mX6_lose x6 x7 σ8) (fun r16 σ15 => mL_law_b589 xs L k57 x2 x3 x4 x6 x7 x8 x9 r9 r16 σ15)
        else
         bnd (mX6_deliver x6 x7 σ8) (fun r13 σ12 => mL_law_b589 xs L k57 x2 x3 x4 x6 x7 x8 x9 r9 r13 σ12))
  else
   bnd (mL_low (x5 >>> (9 &&& 31)) 4 σ) (fun r42 σ41 => bnd (mL_low (x5 >>> (11 &&& 31)) 4 σ41) (fun r45 σ44 => bnd (mL_low (x5 >>> (13 &&& 31)) 8 σ44) (fun r48 σ47 => bnd (mL_low (x5 >>> (16 &&& 31)) 4 σ47) (fun r51 σ50 => bnd (mX6_penDown x6 r42 r45 r48 r51 σ50) (fun r54 σ53 => if r54 = 1 then
    mL_law_L234 xs L k57 fu x2 x3 x4 x5 x6 x9 x10 1 0 σ53
   else
    mL_law_L234 xs L k57 fu x2 x3 x4 x5 x6 x9 x10 0 0 σ53)))))
def mL_law_L126 (xs : Nat → Int32) (L : Nat) (k57 : Int32 → Int32 → Int32 → St → Option (Int32 × St)) : Nat → Int32 → Int32 → Int32 → Int32 → Int32 → Int32 → Int32 → Int32 → Int32 → Int32 → St → Option (Int32 × St)
 | 0, _, _, _, _, _, _, _, _, _, _, _ => none
 | n + 1, x2, x3, x4, x5, x6, x7, x8, x9, x10, x11, σ =>
  if x2 ≤ x11 then
   mL_law_b168 xs L k57 x2 x3 x4 x5 x6 x7 x8 x9 x10 σ
  else
   if x11 = x6 then
    (mL_law_L126 xs L k57 n) x2 x3 x4 x5 x6 x7 x8 x9 (x10 + 0) (x11 + 1) σ
   else
    bnd (mX6_waiting x6 x11 σ) (fun r5 σ4 => if r5 ≤ 8 then
     (mL_law_L126 xs L k57 n) x2 x3 x4 x5 x6 x7 x8 x9 (x10 + 0) (x11 + 1) σ4
    else
     (mL_law_L126 xs L k57 n) x2 x3 x4 x5 x6 x7 x8 x9 (x10 + 1) (x11 + 1) σ4)
def mL_law_L57 (xs : Nat → Int32) (L : Nat) : Nat → Int32 → Int32 → Int32 → St → Option (Int32 × St)
 | 0, _, _, _, _ => none
 | n + 1, x2, x3, x4, σ =>
  if 26 ≤ x4 then
   mL_law_b808 xs L x2 x3 σ
  else
   bni (mL_cell xs L (1 + x4)) (fun r3 => bnd (mL_low (r3 >>> (4 &&& 31)) x2 σ) (fun r6 σ5 => bnd (mL_low (r3 >>> (7 &&& 31)) 4 σ5) (fun r9 σ8 => dz x2 (bnd (mL_low r3 14 σ8) (fun r13 σ12 => bnd (mX6_siteInfo r6 0 σ12) (fun r16 σ15 => mL_law_L126 xs L (mL_law_L57 xs L n) fu x2 x3 x4 r3 r6 (rmI ((r6 + 1) + r9) x2) r13 r16 0 0 σ15))))))
def mL_law (xs : Nat → Int32) (L : Nat) (σ : St) : Option (Int32 × St) :=
  bni (mL_cell xs L 0) (fun r2 => bnd (mL_low r2 5 σ) (fun r5 σ4 => bnd (mL_refuses σ4) (fun r8 σ7 => if r8 = 0 then
   rz 0 σ7
  else
   bnd (mX6_reset (1 + r5) σ7) (fun r12 σ11 => if r12 = 2 then
    bnd (mX6_differing σ11) (fun r16 σ15 => if r16 = 0 then
     bnd (mL_refuses σ15) (fun r20 σ19 => if r20 = 0 then
      rz 0 σ19
     else
      mL_law_L57 xs L fu (1 + r5) 0 0 σ19)
    else
     rz 0 σ15)
   else
    rz 0 σ11))))
