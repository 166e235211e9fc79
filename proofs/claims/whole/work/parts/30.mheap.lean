/-! ===== the reference's cells (31 .. 55) over a heap B: sc its ints by their places, ar its arrays by the places of their fields ===== -/
def up1 (f : Nat → Int32) (k : Nat) (x : Int32) : Nat → Int32 := fun j => if j = k then x else f j
def up2 (f : Nat → Nat → Int32) (k i : Nat) (x : Int32) : Nat → Nat → Int32 := fun a j => if a = k then (if j = i then x else f a j) else f a j
def mO (sc : Nat → Int32) : dr_AO := (4, 32, fun k => if 32 ≤ k then .null else if k = 3 then .ref 32 else if k = 7 then .ref 33 else if k = 8 then .ref 34 else if k = 9 then .ref 35 else if k = 10 then .ref 36 else if k = 11 then .ref 37 else if k = 12 then .ref 38 else if k = 13 then .ref 39 else if k = 14 then .ref 40 else if k = 15 then .ref 41 else if k = 16 then .ref 42 else if k = 17 then .ref 43 else if k = 18 then .ref 44 else if k = 20 then .ref 45 else if k = 21 then .ref 46 else if k = 22 then .ref 47 else if k = 23 then .ref 48 else if k = 24 then .ref 49 else if k = 25 then .ref 50 else if k = 26 then .ref 51 else if k = 28 then .ref 52 else if k = 29 then .ref 53 else if k = 30 then .ref 54 else if k = 31 then .ref 55 else .int (sc k))
def mK (b : Nat) : Nat := if b = 33 then 102 else if b = 38 then 102 else if b = 40 then 102 else if b = 46 then 102 else if b = 55 then 102 else 100
def mL (b : Nat) : Nat := if b = 32 then 300 else if b = 33 then 410 else if b = 34 then 410 else if b = 35 then 410 else if b = 36 then 410 else if b = 37 then 410 else if b = 38 then 410 else if b = 39 then 410 else if b = 40 then 210 else if b = 41 then 210 else if b = 42 then 210 else if b = 43 then 210 else if b = 44 then 210 else if b = 45 then 8 else if b = 46 then 8 else if b = 47 then 328 else if b = 48 then 8 else if b = 49 then 480 else if b = 50 then 480 else if b = 51 then 20 else if b = 52 then 100 else if b = 53 then 100 else if b = 54 then 100 else if b = 55 then 100 else 0
def mh (B : dr_AH) (sc : Nat → Int32) (ar : Nat → Nat → Int32) : dr_AH := (B.1, B.2.1, fun b => if b = 31 then mO sc else if 32 ≤ b ∧ b ≤ 55 then (mK b, mL b, fun j => .int (ar b j)) else B.2.2 b)
theorem mh_1 (B : dr_AH) (sc : Nat → Int32) (ar : Nat → Nat → Int32) : (mh B sc ar).1 = B.1 := rfl
theorem mh_2 (B : dr_AH) (sc : Nat → Int32) (ar : Nat → Nat → Int32) : (mh B sc ar).2.1 = B.2.1 := rfl
theorem mh_31 (B : dr_AH) (sc : Nat → Int32) (ar : Nat → Nat → Int32) : (mh B sc ar).2.2 31 = mO sc := rfl
theorem mh_32 (B : dr_AH) (sc : Nat → Int32) (ar : Nat → Nat → Int32) : (mh B sc ar).2.2 32 = (100, 300, fun j => .int (ar 32 j)) := rfl
theorem mh_33 (B : dr_AH) (sc : Nat → Int32) (ar : Nat → Nat → Int32) : (mh B sc ar).2.2 33 = (102, 410, fun j => .int (ar 33 j)) := rfl
theorem mh_34 (B : dr_AH) (sc : Nat → Int32) (ar : Nat → Nat → Int32) : (mh B sc ar).2.2 34 = (100, 410, fun j => .int (ar 34 j)) := rfl
theorem mh_35 (B : dr_AH) (sc : Nat → Int32) (ar : Nat → Nat → Int32) : (mh B sc ar).2.2 35 = (100, 410, fun j => .int (ar 35 j)) := rfl
theorem mh_36 (B : dr_AH) (sc : Nat → Int32) (ar : Nat → Nat → Int32) : (mh B sc ar).2.2 36 = (100, 410, fun j => .int (ar 36 j)) := rfl
theorem mh_37 (B : dr_AH) (sc : Nat → Int32) (ar : Nat → Nat → Int32) : (mh B sc ar).2.2 37 = (100, 410, fun j => .int (ar 37 j)) := rfl
theorem mh_38 (B : dr_AH) (sc : Nat → Int32) (ar : Nat → Nat → Int32) : (mh B sc ar).2.2 38 = (102, 410, fun j => .int (ar 38 j)) := rfl
theorem mh_39 (B : dr_AH) (sc : Nat → Int32) (ar : Nat → Nat → Int32) : (mh B sc ar).2.2 39 = (100, 410, fun j => .int (ar 39 j)) := rfl
theorem mh_40 (B : dr_AH) (sc : Nat → Int32) (ar : Nat → Nat → Int32) : (mh B sc ar).2.2 40 = (102, 210, fun j => .int (ar 40 j)) := rfl
theorem mh_41 (B : dr_AH) (sc : Nat → Int32) (ar : Nat → Nat → Int32) : (mh B sc ar).2.2 41 = (100, 210, fun j => .int (ar 41 j)) := rfl
theorem mh_42 (B : dr_AH) (sc : Nat → Int32) (ar : Nat → Nat → Int32) : (mh B sc ar).2.2 42 = (100, 210, fun j => .int (ar 42 j)) := rfl
theorem mh_43 (B : dr_AH) (sc : Nat → Int32) (ar : Nat → Nat → Int32) : (mh B sc ar).2.2 43 = (100, 210, fun j => .int (ar 43 j)) := rfl
theorem mh_44 (B : dr_AH) (sc : Nat → Int32) (ar : Nat → Nat → Int32) : (mh B sc ar).2.2 44 = (100, 210, fun j => .int (ar 44 j)) := rfl
theorem mh_45 (B : dr_AH) (sc : Nat → Int32) (ar : Nat → Nat → Int32) : (mh B sc ar).2.2 45 = (100, 8, fun j => .int (ar 45 j)) := rfl
theorem mh_46 (B : dr_AH) (sc : Nat → Int32) (ar : Nat → Nat → Int32) : (mh B sc ar).2.2 46 = (102, 8, fun j => .int (ar 46 j)) := rfl
theorem mh_47 (B : dr_AH) (sc : Nat → Int32) (ar : Nat → Nat → Int32) : (mh B sc ar).2.2 47 = (100, 328, fun j => .int (ar 47 j)) := rfl
theorem mh_48 (B : dr_AH) (sc : Nat → Int32) (ar : Nat → Nat → Int32) : (mh B sc ar).2.2 48 = (100, 8, fun j => .int (ar 48 j)) := rfl
theorem mh_49 (B : dr_AH) (sc : Nat → Int32) (ar : Nat → Nat → Int32) : (mh B sc ar).2.2 49 = (100, 480, fun j => .int (ar 49 j)) := rfl
theorem mh_50 (B : dr_AH) (sc : Nat → Int32) (ar : Nat → Nat → Int32) : (mh B sc ar).2.2 50 = (100, 480, fun j => .int (ar 50 j)) := rfl
theorem mh_51 (B : dr_AH) (sc : Nat → Int32) (ar : Nat → Nat → Int32) : (mh B sc ar).2.2 51 = (100, 20, fun j => .int (ar 51 j)) := rfl
theorem mh_52 (B : dr_AH) (sc : Nat → Int32) (ar : Nat → Nat → Int32) : (mh B sc ar).2.2 52 = (100, 100, fun j => .int (ar 52 j)) := rfl
theorem mh_53 (B : dr_AH) (sc : Nat → Int32) (ar : Nat → Nat → Int32) : (mh B sc ar).2.2 53 = (100, 100, fun j => .int (ar 53 j)) := rfl
theorem mh_54 (B : dr_AH) (sc : Nat → Int32) (ar : Nat → Nat → Int32) : (mh B sc ar).2.2 54 = (100, 100, fun j => .int (ar 54 j)) := rfl
theorem mh_55 (B : dr_AH) (sc : Nat → Int32) (ar : Nat → Nat → Int32) : (mh B sc ar).2.2 55 = (102, 100, fun j => .int (ar 55 j)) := rfl
theorem mO_k (sc : Nat → Int32) : (mO sc).1 = 4 := rfl
theorem mO_0 (sc : Nat → Int32) : (mO sc).2.2 0 = .int (sc 0) := rfl
theorem mO_1 (sc : Nat → Int32) : (mO sc).2.2 1 = .int (sc 1) := rfl
theorem mO_2 (sc : Nat → Int32) : (mO sc).2.2 2 = .int (sc 2) := rfl
theorem mO_3 (sc : Nat → Int32) : (mO sc).2.2 3 = .ref 32 := rfl
theorem mO_4 (sc : Nat → Int32) : (mO sc).2.2 4 = .int (sc 4) := rfl
theorem mO_5 (sc : Nat → Int32) : (mO sc).2.2 5 = .int (sc 5) := rfl
theorem mO_6 (sc : Nat → Int32) : (mO sc).2.2 6 = .int (sc 6) := rfl
theorem mO_7 (sc : Nat → Int32) : (mO sc).2.2 7 = .ref 33 := rfl
theorem mO_8 (sc : Nat → Int32) : (mO sc).2.2 8 = .ref 34 := rfl
theorem mO_9 (sc : Nat → Int32) : (mO sc).2.2 9 = .ref 35 := rfl
theorem mO_10 (sc : Nat → Int32) : (mO sc).2.2 10 = .ref 36 := rfl
theorem mO_11 (sc : Nat → Int32) : (mO sc).2.2 11 = .ref 37 := rfl
theorem mO_12 (sc : Nat → Int32) : (mO sc).2.2 12 = .ref 38 := rfl
theorem mO_13 (sc : Nat → Int32) : (mO sc).2.2 13 = .ref 39 := rfl
theorem mO_14 (sc : Nat → Int32) : (mO sc).2.2 14 = .ref 40 := rfl
theorem mO_15 (sc : Nat → Int32) : (mO sc).2.2 15 = .ref 41 := rfl
theorem mO_16 (sc : Nat → Int32) : (mO sc).2.2 16 = .ref 42 := rfl
theorem mO_17 (sc : Nat → Int32) : (mO sc).2.2 17 = .ref 43 := rfl
theorem mO_18 (sc : Nat → Int32) : (mO sc).2.2 18 = .ref 44 := rfl
theorem mO_19 (sc : Nat → Int32) : (mO sc).2.2 19 = .int (sc 19) := rfl
theorem mO_20 (sc : Nat → Int32) : (mO sc).2.2 20 = .ref 45 := rfl
theorem mO_21 (sc : Nat → Int32) : (mO sc).2.2 21 = .ref 46 := rfl
theorem mO_22 (sc : Nat → Int32) : (mO sc).2.2 22 = .ref 47 := rfl
theorem mO_23 (sc : Nat → Int32) : (mO sc).2.2 23 = .ref 48 := rfl
theorem mO_24 (sc : Nat → Int32) : (mO sc).2.2 24 = .ref 49 := rfl
theorem mO_25 (sc : Nat → Int32) : (mO sc).2.2 25 = .ref 50 := rfl
theorem mO_26 (sc : Nat → Int32) : (mO sc).2.2 26 = .ref 51 := rfl
theorem mO_27 (sc : Nat → Int32) : (mO sc).2.2 27 = .int (sc 27) := rfl
theorem mO_28 (sc : Nat → Int32) : (mO sc).2.2 28 = .ref 52 := rfl
theorem mO_29 (sc : Nat → Int32) : (mO sc).2.2 29 = .ref 53 := rfl
theorem mO_30 (sc : Nat → Int32) : (mO sc).2.2 30 = .ref 54 := rfl
theorem mO_31 (sc : Nat → Int32) : (mO sc).2.2 31 = .ref 55 := rfl
theorem dr_ext {h h2 : dr_AH} (e1 : h.1 = h2.1) (e2 : h.2.1 = h2.2.1) (e3 : ∀ b, h.2.2 b = h2.2.2 b) : h = h2 := by
  obtain ⟨a, b, c⟩ := h
  obtain ⟨a2, b2, c2⟩ := h2
  cases e1; cases e2
  have : c = c2 := funext e3
  rw [this]
theorem mO_put (sc : Nat → Int32) (k : Nat) (x : Int32) (hk : k < 32) (hs : (mO sc).2.2 k = .int (sc k)) : dr_set (mO sc) k (.int x) = mO (up1 sc k x) := by
  unfold dr_set
  refine Prod.ext rfl (Prod.ext rfl (funext fun j => ?_))
  show (if j = k then Value.int x else (mO sc).2.2 j) = (mO (up1 sc k x)).2.2 j
  by_cases e : j = k
  · subst e
    rw [if_pos rfl]
    simp only [mO, up1] at hs ⊢
    split at hs
    · cases hs
    · repeat' (split at hs; · cases hs)
      simp_all
  · rw [if_neg e]
    simp only [mO, up1, if_neg e]
theorem mp_0 (B : dr_AH) (sc : Nat → Int32) (ar : Nat → Nat → Int32) (x : Int32) : dr_put (mh B sc ar) 31 0 (.int x) = mh B (up1 sc 0 x) ar := by
  refine dr_ext rfl rfl fun b => ?_
  show dr_upd (mh B sc ar).2.2 31 _ b = _
  unfold dr_upd
  by_cases e : b = 31
  · rw [if_pos e, e, mh_31, mh_31]; exact mO_put sc 0 x (by decide) rfl
  · rw [if_neg e]; simp only [mh, if_neg e]
theorem mp_1 (B : dr_AH) (sc : Nat → Int32) (ar : Nat → Nat → Int32) (x : Int32) : dr_put (mh B sc ar) 31 1 (.int x) = mh B (up1 sc 1 x) ar := by
  refine dr_ext rfl rfl fun b => ?_
  show dr_upd (mh B sc ar).2.2 31 _ b = _
  unfold dr_upd
  by_cases e : b = 31
  · rw [if_pos e, e, mh_31, mh_31]; exact mO_put sc 1 x (by decide) rfl
  · rw [if_neg e]; simp only [mh, if_neg e]
theorem mp_2 (B : dr_AH) (sc : Nat → Int32) (ar : Nat → Nat → Int32) (x : Int32) : dr_put (mh B sc ar) 31 2 (.int x) = mh B (up1 sc 2 x) ar := by
  refine dr_ext rfl rfl fun b => ?_
  show dr_upd (mh B sc ar).2.2 31 _ b = _
  unfold dr_upd
  by_cases e : b = 31
  · rw [if_pos e, e, mh_31, mh_31]; exact mO_put sc 2 x (by decide) rfl
  · rw [if_neg e]; simp only [mh, if_neg e]
theorem mp_4 (B : dr_AH) (sc : Nat → Int32) (ar : Nat → Nat → Int32) (x : Int32) : dr_put (mh B sc ar) 31 4 (.int x) = mh B (up1 sc 4 x) ar := by
  refine dr_ext rfl rfl fun b => ?_
  show dr_upd (mh B sc ar).2.2 31 _ b = _
  unfold dr_upd
  by_cases e : b = 31
  · rw [if_pos e, e, mh_31, mh_31]; exact mO_put sc 4 x (by decide) rfl
  · rw [if_neg e]; simp only [mh, if_neg e]
theorem mp_5 (B : dr_AH) (sc : Nat → Int32) (ar : Nat → Nat → Int32) (x : Int32) : dr_put (mh B sc ar) 31 5 (.int x) = mh B (up1 sc 5 x) ar := by
  refine dr_ext rfl rfl fun b => ?_
  show dr_upd (mh B sc ar).2.2 31 _ b = _
  unfold dr_upd
  by_cases e : b = 31
  · rw [if_pos e, e, mh_31, mh_31]; exact mO_put sc 5 x (by decide) rfl
  · rw [if_neg e]; simp only [mh, if_neg e]
theorem mp_6 (B : dr_AH) (sc : Nat → Int32) (ar : Nat → Nat → Int32) (x : Int32) : dr_put (mh B sc ar) 31 6 (.int x) = mh B (up1 sc 6 x) ar := by
  refine dr_ext rfl rfl fun b => ?_
  show dr_upd (mh B sc ar).2.2 31 _ b = _
  unfold dr_upd
  by_cases e : b = 31
  · rw [if_pos e, e, mh_31, mh_31]; exact mO_put sc 6 x (by decide) rfl
  · rw [if_neg e]; simp only [mh, if_neg e]
theorem mp_19 (B : dr_AH) (sc : Nat → Int32) (ar : Nat → Nat → Int32) (x : Int32) : dr_put (mh B sc ar) 31 19 (.int x) = mh B (up1 sc 19 x) ar := by
  refine dr_ext rfl rfl fun b => ?_
  show dr_upd (mh B sc ar).2.2 31 _ b = _
  unfold dr_upd
  by_cases e : b = 31
  · rw [if_pos e, e, mh_31, mh_31]; exact mO_put sc 19 x (by decide) rfl
  · rw [if_neg e]; simp only [mh, if_neg e]
theorem mp_27 (B : dr_AH) (sc : Nat → Int32) (ar : Nat → Nat → Int32) (x : Int32) : dr_put (mh B sc ar) 31 27 (.int x) = mh B (up1 sc 27 x) ar := by
  refine dr_ext rfl rfl fun b => ?_
  show dr_upd (mh B sc ar).2.2 31 _ b = _
  unfold dr_upd
  by_cases e : b = 31
  · rw [if_pos e, e, mh_31, mh_31]; exact mO_put sc 27 x (by decide) rfl
  · rw [if_neg e]; simp only [mh, if_neg e]
theorem mq_g (B : dr_AH) (sc : Nat → Int32) (ar : Nat → Nat → Int32) {a : Nat} (ha : 32 ≤ a ∧ a ≤ 55) (i : Nat) (x : Int32) : dr_put (mh B sc ar) a i (.int x) = mh B sc (up2 ar a i x) := by
  refine dr_ext rfl rfl fun b => ?_
  show (if b = a then dr_set ((mh B sc ar).2.2 a) i (.int x) else (mh B sc ar).2.2 b) = (mh B sc (up2 ar a i x)).2.2 b
  simp only [mh]
  by_cases e : b = a
  · subst e
    rw [if_pos rfl, if_neg (by omega), if_pos ha, if_neg (by omega), if_pos ha]
    refine Prod.ext rfl (Prod.ext rfl (funext fun j => ?_))
    show (if j = i then Value.int x else .int (ar b j)) = .int (up2 ar b i x b j)
    unfold up2
    rw [if_pos rfl]
    by_cases e2 : j = i
    · rw [if_pos e2, if_pos e2]
    · rw [if_neg e2, if_neg e2]
  · rw [if_neg e]
    have : ∀ j, up2 ar a i x b j = ar b j := fun j => by unfold up2; rw [if_neg e]
    simp only [this]
theorem mq_32 (B : dr_AH) (sc : Nat → Int32) (ar : Nat → Nat → Int32) (i : Nat) (x : Int32) : dr_put (mh B sc ar) 32 i (.int x) = mh B sc (up2 ar 32 i x) := mq_g B sc ar (by decide) i x
theorem mq_33 (B : dr_AH) (sc : Nat → Int32) (ar : Nat → Nat → Int32) (i : Nat) (x : Int32) : dr_put (mh B sc ar) 33 i (.int x) = mh B sc (up2 ar 33 i x) := mq_g B sc ar (by decide) i x
theorem mq_34 (B : dr_AH) (sc : Nat → Int32) (ar : Nat → Nat → Int32) (i : Nat) (x : Int32) : dr_put (mh B sc ar) 34 i (.int x) = mh B sc (up2 ar 34 i x) := mq_g B sc ar (by decide) i x
theorem mq_35 (B : dr_AH) (sc : Nat → Int32) (ar : Nat → Nat → Int32) (i : Nat) (x : Int32) : dr_put (mh B sc ar) 35 i (.int x) = mh B sc (up2 ar 35 i x) := mq_g B sc ar (by decide) i x
theorem mq_36 (B : dr_AH) (sc : Nat → Int32) (ar : Nat → Nat → Int32) (i : Nat) (x : Int32) : dr_put (mh B sc ar) 36 i (.int x) = mh B sc (up2 ar 36 i x) := mq_g B sc ar (by decide) i x
theorem mq_37 (B : dr_AH) (sc : Nat → Int32) (ar : Nat → Nat → Int32) (i : Nat) (x : Int32) : dr_put (mh B sc ar) 37 i (.int x) = mh B sc (up2 ar 37 i x) := mq_g B sc ar (by decide) i x
theorem mq_38 (B : dr_AH) (sc : Nat → Int32) (ar : Nat → Nat → Int32) (i : Nat) (x : Int32) : dr_put (mh B sc ar) 38 i (.int x) = mh B sc (up2 ar 38 i x) := mq_g B sc ar (by decide) i x
theorem mq_39 (B : dr_AH) (sc : Nat → Int32) (ar : Nat → Nat → Int32) (i : Nat) (x : Int32) : dr_put (mh B sc ar) 39 i (.int x) = mh B sc (up2 ar 39 i x) := mq_g B sc ar (by decide) i x
theorem mq_40 (B : dr_AH) (sc : Nat → Int32) (ar : Nat → Nat → Int32) (i : Nat) (x : Int32) : dr_put (mh B sc ar) 40 i (.int x) = mh B sc (up2 ar 40 i x) := mq_g B sc ar (by decide) i x
theorem mq_41 (B : dr_AH) (sc : Nat → Int32) (ar : Nat → Nat → Int32) (i : Nat) (x : Int32) : dr_put (mh B sc ar) 41 i (.int x) = mh B sc (up2 ar 41 i x) := mq_g B sc ar (by decide) i x
theorem mq_42 (B : dr_AH) (sc : Nat → Int32) (ar : Nat → Nat → Int32) (i : Nat) (x : Int32) : dr_put (mh B sc ar) 42 i (.int x) = mh B sc (up2 ar 42 i x) := mq_g B sc ar (by decide) i x
theorem mq_43 (B : dr_AH) (sc : Nat → Int32) (ar : Nat → Nat → Int32) (i : Nat) (x : Int32) : dr_put (mh B sc ar) 43 i (.int x) = mh B sc (up2 ar 43 i x) := mq_g B sc ar (by decide) i x
theorem mq_44 (B : dr_AH) (sc : Nat → Int32) (ar : Nat → Nat → Int32) (i : Nat) (x : Int32) : dr_put (mh B sc ar) 44 i (.int x) = mh B sc (up2 ar 44 i x) := mq_g B sc ar (by decide) i x
theorem mq_45 (B : dr_AH) (sc : Nat → Int32) (ar : Nat → Nat → Int32) (i : Nat) (x : Int32) : dr_put (mh B sc ar) 45 i (.int x) = mh B sc (up2 ar 45 i x) := mq_g B sc ar (by decide) i x
theorem mq_46 (B : dr_AH) (sc : Nat → Int32) (ar : Nat → Nat → Int32) (i : Nat) (x : Int32) : dr_put (mh B sc ar) 46 i (.int x) = mh B sc (up2 ar 46 i x) := mq_g B sc ar (by decide) i x
theorem mq_47 (B : dr_AH) (sc : Nat → Int32) (ar : Nat → Nat → Int32) (i : Nat) (x : Int32) : dr_put (mh B sc ar) 47 i (.int x) = mh B sc (up2 ar 47 i x) := mq_g B sc ar (by decide) i x
theorem mq_48 (B : dr_AH) (sc : Nat → Int32) (ar : Nat → Nat → Int32) (i : Nat) (x : Int32) : dr_put (mh B sc ar) 48 i (.int x) = mh B sc (up2 ar 48 i x) := mq_g B sc ar (by decide) i x
theorem mq_49 (B : dr_AH) (sc : Nat → Int32) (ar : Nat → Nat → Int32) (i : Nat) (x : Int32) : dr_put (mh B sc ar) 49 i (.int x) = mh B sc (up2 ar 49 i x) := mq_g B sc ar (by decide) i x
theorem mq_50 (B : dr_AH) (sc : Nat → Int32) (ar : Nat → Nat → Int32) (i : Nat) (x : Int32) : dr_put (mh B sc ar) 50 i (.int x) = mh B sc (up2 ar 50 i x) := mq_g B sc ar (by decide) i x
theorem mq_51 (B : dr_AH) (sc : Nat → Int32) (ar : Nat → Nat → Int32) (i : Nat) (x : Int32) : dr_put (mh B sc ar) 51 i (.int x) = mh B sc (up2 ar 51 i x) := mq_g B sc ar (by decide) i x
theorem mq_52 (B : dr_AH) (sc : Nat → Int32) (ar : Nat → Nat → Int32) (i : Nat) (x : Int32) : dr_put (mh B sc ar) 52 i (.int x) = mh B sc (up2 ar 52 i x) := mq_g B sc ar (by decide) i x
theorem mq_53 (B : dr_AH) (sc : Nat → Int32) (ar : Nat → Nat → Int32) (i : Nat) (x : Int32) : dr_put (mh B sc ar) 53 i (.int x) = mh B sc (up2 ar 53 i x) := mq_g B sc ar (by decide) i x
theorem mq_54 (B : dr_AH) (sc : Nat → Int32) (ar : Nat → Nat → Int32) (i : Nat) (x : Int32) : dr_put (mh B sc ar) 54 i (.int x) = mh B sc (up2 ar 54 i x) := mq_g B sc ar (by decide) i x
theorem mq_55 (B : dr_AH) (sc : Nat → Int32) (ar : Nat → Nat → Int32) (i : Nat) (x : Int32) : dr_put (mh B sc ar) 55 i (.int x) = mh B sc (up2 ar 55 i x) := mq_g B sc ar (by decide) i x
section MM
variable (B : dr_AH) (sc : Nat → Int32) (ar : Nat → Nat → Int32)
theorem m_in (x a b : Int32) (h : dr_AH) : f_M_in x a b h = some (.inl (some (.int (if a ≤ x ∧ x ≤ b then 1 else 0))), h) := by
  unfold f_M_in
  by_cases h1 : x < a
  · rw [if_pos h1, if_neg (by simp only [Int32.lt_iff_toInt_lt, Int32.le_iff_toInt_le] at *; omega)]; rfl
  · rw [if_neg h1]
    by_cases h2 : b < x
    · rw [if_pos h2, if_neg (by simp only [Int32.lt_iff_toInt_lt, Int32.le_iff_toInt_le] at *; omega)]; rfl
    · rw [if_neg h2, if_pos (by simp only [Int32.lt_iff_toInt_lt, Int32.le_iff_toInt_le] at *; omega)]; rfl
/-- which of the three isn't so -/
def gz (x y z : Int32) : Int32 := if x = 0 then 1 else if y = 0 then 2 else if z = 0 then 3 else 0
theorem m_goes (x y z : Int32) : f_M_goes 31 x y z (mh B sc ar) = some (.inl (some (.int (if gz x y z = 0 then 1 else 0))), mh B (up1 sc 0 (gz x y z)) ar) := by
  unfold f_M_goes gz
  by_cases h1 : x = 0 <;> by_cases h2 : y = 0 <;> by_cases h3 : z = 0 <;> simp [h1, h2, h3, dr_pf, dr_gi, dr_rz, mh_31, mO_k, mO_0, mp_0, up1]
theorem m_thrown : f_M_thrown 31 (mh B sc ar) = some (.inl (some (.int (sc 0))), mh B sc ar) := by
  simp [f_M_thrown, dr_gi, mh_31, mO_k, mO_0]
theorem m_place : f_M_place 31 (mh B sc ar) = some (.inl (some (.int (sc 4))), mh B (up1 sc 0 0) ar) := by
  simp [f_M_place, dr_gi, dr_pf, mh_31, mO_k, mO_4, mp_0, up1]
theorem m_isDrill (x : Int32) : f_M_isDrill 31 x (mh B sc ar) = some (.inl (some (.int (if 0 ≤ x ∧ x ≤ sc 19 - 1 then 1 else 0))), mh B sc ar) := by
  simp only [f_M_isDrill, dr_gi, mh_31, mO_k, mO_19, if_true, m_in, dr_ci, dr_rz]
  by_cases h : 0 ≤ x ∧ x ≤ sc 19 - 1
  · simp [h]
  · simp [h]
end MM
