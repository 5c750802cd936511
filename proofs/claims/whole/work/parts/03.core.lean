def kdl : List (Nat × Nat) := [(0, 10), (1, 260), (0, 8), (1, 240), (0, 5), (1, 20), (0, 3), (1, 20), (1, 20), (1, 20), (1, 20), (0, 2), (0, 1), (1, 16), (1, 16), (1, 16), (1, 16), (1, 240), (1, 240), (1, 24), (0, 9), (0, 4), (1, 21), (0, 4), (1, 21), (0, 7), (1, 40), (1, 9), (0, 1), (1, 16), (1, 16), (1, 16), (1, 16), (1, 240), (1, 240), (1, 24), (0, 7), (1, 40), (0, 7), (1, 40), (0, 0), (1, 720), (1, 720), (0, 6), (1, 21), (1, 61), (1, 10), (1, 5), (1, 5), (0, 11), (1, 47), (1, 47), (1, 47), (1, 2), (1, 40), (2, 260), (1, 260), (1, 260), (1, 16), (1, 16), (1, 16), (1, 16), (1, 260), (1, 16), (1, 16), (1, 16), (1, 16), (1, 260), (1, 9), (1, 20), (1, 2), (1, 2), (1, 2), (1, 441), (1, 61), (1, 10), (1, 5), (1, 5), (1, 46656), (1, 720), (1, 6), (1, 7)]
def fN (ci : Nat) : Nat := [2, 9, 1, 5, 2, 2, 5, 8, 4, 6, 12, 51].getD ci 0
def fR (ci f : Nat) : Bool := ([[true, true], [true, true, true, true, true, true, true, false, false], [true], [true, true, true, true, false], [true, false], [true, false], [true, true, true, true, true], [false, false, true, false, false, false, false, false], [true, false, false, false], [true, true, true, true, true, false], [true, false, true, true, true, true, true, true, true, true, true, false], [true, true, true, true, true, false, true, false, false, false, false, false, false, false, false, false, false, true, true, true, true, true, true, true, true, true, true, true, true, true, true, true, true, true, false, false, false, false, false, false, false, true, true, true, true, true, true, true, true, true, false]].getD ci []).getD f false
theorem mm_min_s : Cond.static Lib.Math.min.name ∈ xtb := xtb_m 473 (by decide +kernel) rfl
theorem mm_min_c : Cond.code Lib.Math.min.name Lib.Math.min.code 2 (some .int) ∈ xtb := xtb_m 474 (by decide +kernel) rfl
theorem mm_max_s : Cond.static Lib.Math.max.name ∈ xtb := xtb_m 476 (by decide +kernel) rfl
theorem mm_max_c : Cond.code Lib.Math.max.name Lib.Math.max.code 2 (some .int) ∈ xtb := xtb_m 477 (by decide +kernel) rfl
theorem mm_abs_s : Cond.static Lib.Math.abs.name ∈ xtb := xtb_m 827 (by decide +kernel) rfl
theorem mm_abs_c : Cond.code Lib.Math.abs.name Lib.Math.abs.code 1 (some .int) ∈ xtb := xtb_m 828 (by decide +kernel) rfl
theorem mm_init : Cond.initialized "java/lang/Math" ∈ xtb := xtb_m 157 (by decide +kernel) rfl
theorem mm_copy_n : Cond.native arraycopyName ∈ xtb := xtb_m 480 (by decide +kernel) rfl
theorem mm_copy_s : Cond.static arraycopyName ∈ xtb := xtb_m 479 (by decide +kernel) rfl
theorem mm_copy_i : Cond.initialized "java/lang/System" ∈ xtb := xtb_m 158 (by decide +kernel) rfl
/-! A state of both systems as plain numbers: objects and arrays by their order of making (ids), ints h.1 id slot, references h.2 id slot. -/
abbrev Kst : Type := Launch × va_G × ClassId × ClassId × (Nat → Prop) × (Nat → Nat) × Nat
def kl (k : Kst) : Launch := k.1
def kD (k : Kst) : va_G := k.2.1
def kI (k : Kst) : ClassId := k.2.2.1
def kB (k : Kst) : ClassId := k.2.2.2.1
def kA (k : Kst) : Nat → Prop := k.2.2.2.2.1
def ka (k : Kst) : Nat → Nat := k.2.2.2.2.2.1
def kn (k : Kst) : Nat := k.2.2.2.2.2.2
abbrev Kdy : Type := Program × Env × Room × State × MethodId × Array Value × List Frame × Method × Code × Nat × Nat × (State → Prop)
def dp (d : Kdy) : Program := d.1
def de (d : Kdy) : Env := d.2.1
def dR (d : Kdy) : Room := d.2.2.1
def ds (d : Kdy) : State := d.2.2.2.1
def dm (d : Kdy) : MethodId := d.2.2.2.2.1
def da (d : Kdy) : Array Value := d.2.2.2.2.2.1
def db (d : Kdy) : List Frame := d.2.2.2.2.2.2.1
def dM (d : Kdy) : Method := d.2.2.2.2.2.2.2.1
def dc (d : Kdy) : Code := d.2.2.2.2.2.2.2.2.1
def dk (d : Kdy) : Nat := d.2.2.2.2.2.2.2.2.2.1
def dl (d : Kdy) : Nat := d.2.2.2.2.2.2.2.2.2.2.1
def dQ (d : Kdy) : State → Prop := d.2.2.2.2.2.2.2.2.2.2.2
abbrev Hp : Type := (Nat → Nat → Int32) × (Nat → Nat → Option Nat)
def kd (i : Nat) : Nat × Nat := kdl.getD i (9, 0)
theorem kd_lt {i a b : Nat} (h : kd i = (a, b)) (ha : a < 9) : i < kdl.length := by
  unfold kd at h
  rw [List.getD_eq_getElem?_getD] at h
  rcases Nat.lt_or_ge i kdl.length with q | q
  · exact q
  · rw [List.getElem?_eq_none q] at h
    simp only [Option.getD_none, Prod.mk.injEq] at h
    omega
/-- field f of object i -/
def fv (k : Kst) (h : Hp) (i f : Nat) : Value := if fR (kd i).2 f = true then va_rf ((h.2 i f).map (ka k)) else .int (h.1 i f)
def ce (k : Kst) (h : Hp) (i : Nat) : va_E := match (kd i).1 with
  | 0 => .inr ((kd i).2, (List.range (fN (kd i).2)).map (fv k h i))
  | 1 => .inl (kI k, (kd i).2, .inl (h.1 i))
  | _ => .inl (kB k, (kd i).2, .inl (h.1 i))
def ws (k : Kst) (h : Hp) : va_W := (List.range (kn k)).map (fun i => (ka k i, ce k h i))
/-- one number of the state anew -/
def up (h : Hp) (a j : Nat) (v : Int32) : Hp := (fun i q => if i = a ∧ q = j then v else h.1 i q, h.2)
/-- one reference of the state anew -/
def ur (h : Hp) (a j : Nat) (v : Nat) : Hp := (h.1, fun i q => if i = a ∧ q = j then some v else h.2 i q)
/-- a stretch of one array out of another's -/
def uc (h : Hp) (a b sp dp n : Nat) : Hp := (fun i q => if i = b then va_cpy (h.1 a) (h.1 b) sp dp n q else h.1 i q, h.2)
def Dj (k : Kst) : Prop := (∀ i j : Nat, i < kn k → j < kn k → ka k i = ka k j → i = j) ∧ ∀ i : Nat, i < kn k → kA k (ka k i)
theorem ws_get {k : Kst} {h : Hp} {i : Nat} (hi : i < kn k) : (ws k h)[i]? = some (ka k i, ce k h i) := by
  simp [ws, hi]
theorem ws_some {k : Kst} {h : Hp} {i : Nat} {q : Nat × va_E} (hi : (ws k h)[i]? = some q) : i < kn k ∧ q = (ka k i, ce k h i) := by
  have hl : i < kn k := by
    have := (List.getElem?_eq_some_iff.mp hi).1
    simpa [ws] using this
  rw [ws_get hl] at hi
  exact ⟨hl, (Option.some.inj hi).symm⟩
theorem dj_D {k : Kst} {h : Hp} (H : Dj k) : va_D (kA k) (ws k h) := by
  refine ⟨fun i j p q hp hq e => ?_, fun i q hq => ?_⟩
  · obtain ⟨h1, rfl⟩ := ws_some hp
    obtain ⟨h2, rfl⟩ := ws_some hq
    exact H.1 i j h1 h2 e
  · obtain ⟨h1, rfl⟩ := ws_some hq
    exact H.2 i h1
theorem ws_set {k : Kst} {h h' : Hp} {i : Nat} {e : va_E} (he : ce k h' i = e) (ho : ∀ j, j ≠ i → ce k h' j = ce k h j) : (ws k h).set i (ka k i, e) = ws k h' := by
  apply List.ext_getElem?
  intro j
  rw [List.getElem?_set]
  by_cases hj : i = j
  · subst hj
    rw [if_pos rfl]
    by_cases hl : i < kn k
    · rw [ws_get hl, if_pos (by simpa [ws] using hl), he]
    · rw [if_neg (by simpa [ws] using hl)]
      rw [List.getElem?_eq_none (by simpa [ws] using hl)]
  · rw [if_neg hj]
    by_cases hl : j < kn k
    · rw [ws_get hl, ws_get hl, ho j (fun e => hj e.symm)]
    · rw [List.getElem?_eq_none (by simpa [ws] using hl), List.getElem?_eq_none (by simpa [ws] using hl)]
theorem ce_o {k : Kst} {h : Hp} {i ci : Nat} (hi : kd i = (0, ci)) : ce k h i = .inr (ci, (List.range (fN ci)).map (fv k h i)) := by
  unfold ce
  rw [hi]
  rfl
theorem ce_i {k : Kst} {h : Hp} {i : Nat} (hi : (kd i).1 = 1) : ce k h i = .inl (kI k, (kd i).2, .inl (h.1 i)) := by
  unfold ce
  rw [hi]
  rfl
theorem ce_b {k : Kst} {h : Hp} {i : Nat} (hi : (kd i).1 = 2) : ce k h i = .inl (kB k, (kd i).2, .inl (h.1 i)) := by
  unfold ce
  rw [hi]
  rfl
theorem up_same {h : Hp} {a j : Nat} {v : Int32} {i q : Nat} (hne : ¬ (i = a ∧ q = j)) : (up h a j v).1 i q = h.1 i q := by
  simp [up, hne]
theorem ce_up {k : Kst} {h : Hp} {a j i : Nat} {v : Int32} (hi : i ≠ a) : ce k (up h a j v) i = ce k h i := by
  have e : (up h a j v).1 i = h.1 i := by
    funext q
    exact up_same (fun e => hi e.1)
  have e2 : fv k (up h a j v) i = fv k h i := by
    funext f
    unfold fv
    rw [e]
    rfl
  unfold ce
  rw [e, e2]
theorem ce_ur {k : Kst} {h : Hp} {a j i : Nat} {v : Nat} (hi : i ≠ a) : ce k (ur h a j v) i = ce k h i := by
  have e2 : fv k (ur h a j v) i = fv k h i := by
    funext f
    unfold fv ur
    simp [hi]
  unfold ce
  rw [e2]
  rfl
theorem ce_uc {k : Kst} {h : Hp} {a b sp dp n i : Nat} (hi : i ≠ b) : ce k (uc h a b sp dp n) i = ce k h i := by
  have e : (uc h a b sp dp n).1 i = h.1 i := by
    funext q
    simp [uc, hi]
  have e2 : fv k (uc h a b sp dp n) i = fv k h i := by
    funext f
    unfold fv
    rw [e]
    rfl
  unfold ce
  rw [e, e2]
/-- the machine at pc of a method, with these locals, this stack, this state of both systems: it comes to the end that is wanted -/
def Wz (k : Kst) (d : Kdy) (h : Hp) (pc : Nat) (ls : List (Nat × Value)) (st : List Value) : Prop :=
  ∀ (H : Heap) (locs : List Loc) (la : Array Slot), va_P (kD k) vwCl (ws k h) H → va_S (kA k) (ds d).heap H locs → lv_has la (dc d).maxLocals ls →
    W (dp d) (kl k) (de d) (dR d) (ds d) (dm d) (da d) (db d) (dM d) (dc d) H locs (dk d) (dl d) (dQ d) (F0 (dm d) pc la st)
def Okc (k : Kst) (d : Kdy) (cc : ByteArray) (own : String) (nL lev : Nat) : Prop :=
  (dp d).tables.exec = Jvm.exec ∧ (dc d).code = cc ∧ (dc d).maxLocals = nL ∧ (ds d).vm.findClass own = some (dm d).cls ∧ (∀ w ∈ xtb, w.before (da d) (ds d) = true) ∧
  va_K (kD k) vwCl [(kI k, .int), (kB k, .byte)] (ds d) ∧ Dj k ∧ lev ≤ (dR d).frames ∧ 64 * lev ≤ (dR d).locals ∧ dk d ≤ (dR d).cells ∧ dl d ≤ (dR d).slots
def Ok (k : Kst) (d : Kdy) (cc : ByteArray) (own : String) (nL lev : Nat) : Prop := Okc k d cc own nL lev ∧ kn k = kdl.length
section rows
variable {k : Kst} {d : Kdy} {cc : ByteArray} {own : String} {nL lev : Nat} {h : Hp} {pc : Nat} {ls : List (Nat × Value)} {st : List Value}
theorem Ok.lt (o : Ok k d cc own nL lev) {i a b : Nat} (hk : kd i = (a, b)) (ha : a < 9) : i < kn k := by
  rw [o.2]
  exact kd_lt hk ha
theorem x_iconst (o : Ok k d cc own nL lev) {n : Int} {v : Int32} (hdg : decode cc pc = .ok (.iconst n, 1)) (hv : Int32.ofInt n = v) (kk : Wz k d h (pc + 1) ls (.int v :: st)) : Wz k d h pc ls st := fun H locs la hP hS hl => lv_iconst o.1.1 o.1.2.1 hdg hv (kk H locs la hP hS hl)
theorem x_bipush (o : Ok k d cc own nL lev) {n : Int} {v : Int32} (hdg : decode cc pc = .ok (.bipush n, 2)) (hv : (Int8.ofInt n).toInt32 = v) (kk : Wz k d h (pc + 2) ls (.int v :: st)) : Wz k d h pc ls st := fun H locs la hP hS hl => lv_bipush o.1.1 o.1.2.1 hdg hv (kk H locs la hP hS hl)
theorem x_sipush (o : Ok k d cc own nL lev) {n : Int} {v : Int32} (hdg : decode cc pc = .ok (.sipush n, 3)) (hv : (Int16.ofInt n).toInt32 = v) (kk : Wz k d h (pc + 3) ls (.int v :: st)) : Wz k d h pc ls st := fun H locs la hP hS hl => lv_sipush o.1.1 o.1.2.1 hdg hv (kk H locs la hP hS hl)
theorem x_ldc (o : Ok k d cc own nL lev) {n : Nat} {v : Int32} (hdg : decode cc pc = .ok (.ldc n, 2)) (hw : Cond.constant own n v ∈ xtb) (kk : Wz k d h (pc + 2) ls (.int v :: st)) : Wz k d h pc ls st := fun H locs la hP hS hl => lv_ldc o.1.1 o.1.2.1 o.1.2.2.2.1 (o.1.2.2.2.2.1 _ hw) hdg (kk H locs la hP hS hl)
theorem x_ldcw (o : Ok k d cc own nL lev) {n : Nat} {v : Int32} (hdg : decode cc pc = .ok (.ldc_w n, 3)) (hw : Cond.constant own n v ∈ xtb) (kk : Wz k d h (pc + 3) ls (.int v :: st)) : Wz k d h pc ls st := fun H locs la hP hS hl => lv_ldcw o.1.1 o.1.2.1 o.1.2.2.2.1 (o.1.2.2.2.2.1 _ hw) hdg (kk H locs la hP hS hl)
theorem x_iload (o : Ok k d cc own nL lev) {i : Nat} {x : Int32} (hdg : decode cc pc = .ok (.iload i, 2)) (j : Nat) (hj : ls[j]? = some (i, .int x)) (kk : Wz k d h (pc + 2) ls (.int x :: st)) : Wz k d h pc ls st := fun H locs la hP hS hl => lv_iload o.1.1 o.1.2.1 hdg (lv_at hl j hj) (kk H locs la hP hS hl)
theorem x_iload_n (o : Ok k d cc own nL lev) {n : Fin 4} {i : Nat} {x : Int32} (hdg : decode cc pc = .ok (.iload_n n, 1)) (j : Nat) (hj : ls[j]? = some (i, .int x)) (hi : (n : Nat) = i) (kk : Wz k d h (pc + 1) ls (.int x :: st)) : Wz k d h pc ls st := fun H locs la hP hS hl => lv_iload_n o.1.1 o.1.2.1 hdg hi (lv_at hl j hj) (kk H locs la hP hS hl)
theorem x_aload (o : Ok k d cc own nL lev) {i : Nat} {x : Nat} (hdg : decode cc pc = .ok (.aload i, 2)) (j : Nat) (hj : ls[j]? = some (i, .ref x)) (kk : Wz k d h (pc + 2) ls (.ref x :: st)) : Wz k d h pc ls st := fun H locs la hP hS hl => lv_aload o.1.1 o.1.2.1 hdg (lv_at hl j hj) (kk H locs la hP hS hl)
theorem x_aload_n (o : Ok k d cc own nL lev) {n : Fin 4} {i : Nat} {x : Nat} (hdg : decode cc pc = .ok (.aload_n n, 1)) (j : Nat) (hj : ls[j]? = some (i, .ref x)) (hi : (n : Nat) = i) (kk : Wz k d h (pc + 1) ls (.ref x :: st)) : Wz k d h pc ls st := fun H locs la hP hS hl => lv_aload_n o.1.1 o.1.2.1 hdg hi (lv_at hl j hj) (kk H locs la hP hS hl)
/-- local i anew: the list of locals as it is printed -/
theorem st_lv {ls ls' : List (Nat × Value)} {i : Nat} {v : Value} {la : Array Slot} {nL : Nat} (h : lv_has la nL ((i, v) :: ls.filter (fun q => !(q.1 == i) && !(q.1 + 1 == i && q.2.category == 2)))) (ks : List Nat) (hl : lv_pick ((i, v) :: ls.filter (fun q => !(q.1 == i) && !(q.1 + 1 == i && q.2.category == 2))) ks = ls') : lv_has la nL ls' := lv_sub h ks hl
theorem x_istore (o : Ok k d cc own nL lev) {i : Nat} {x : Int32} (hdg : decode cc pc = .ok (.istore i, 2)) (hi : i < nL) (ls' : List (Nat × Value)) (hl' : (i, Value.int x) :: ls.filter (fun q => !(q.1 == i) && !(q.1 + 1 == i && q.2.category == 2)) = ls') (kk : Wz k d h (pc + 2) ls' st) : Wz k d h pc ls (.int x :: st) := fun H locs la hP hS hl => lv_istore o.1.1 o.1.2.1 hdg hl (by rw [o.1.2.2.1]; exact hi) hl' (fun la' hl2 => kk H locs la' hP hS hl2)
theorem x_istore_n (o : Ok k d cc own nL lev) {n : Fin 4} {i : Nat} {x : Int32} (hdg : decode cc pc = .ok (.istore_n n, 1)) (hi : i < nL) (hn : (n : Nat) = i) (ls' : List (Nat × Value)) (hl' : (i, Value.int x) :: ls.filter (fun q => !(q.1 == i) && !(q.1 + 1 == i && q.2.category == 2)) = ls') (kk : Wz k d h (pc + 1) ls' st) : Wz k d h pc ls (.int x :: st) := fun H locs la hP hS hl => lv_istore_n o.1.1 o.1.2.1 hdg hn hl (by rw [o.1.2.2.1]; exact hi) hl' (fun la' hl2 => kk H locs la' hP hS hl2)
theorem x_astore (o : Ok k d cc own nL lev) {i : Nat} {x : Nat} (hdg : decode cc pc = .ok (.astore i, 2)) (hi : i < nL) (ls' : List (Nat × Value)) (hl' : (i, Value.ref x) :: ls.filter (fun q => !(q.1 == i) && !(q.1 + 1 == i && q.2.category == 2)) = ls') (kk : Wz k d h (pc + 2) ls' st) : Wz k d h pc ls (.ref x :: st) := fun H locs la hP hS hl => lv_astore o.1.1 o.1.2.1 hdg hl (by rw [o.1.2.2.1]; exact hi) hl' (fun la' hl2 => kk H locs la' hP hS hl2)
theorem x_astore_n (o : Ok k d cc own nL lev) {n : Fin 4} {i : Nat} {x : Nat} (hdg : decode cc pc = .ok (.astore_n n, 1)) (hi : i < nL) (hn : (n : Nat) = i) (ls' : List (Nat × Value)) (hl' : (i, Value.ref x) :: ls.filter (fun q => !(q.1 == i) && !(q.1 + 1 == i && q.2.category == 2)) = ls') (kk : Wz k d h (pc + 1) ls' st) : Wz k d h pc ls (.ref x :: st) := fun H locs la hP hS hl => lv_astore_n o.1.1 o.1.2.1 hdg hn hl (by rw [o.1.2.2.1]; exact hi) hl' (fun la' hl2 => kk H locs la' hP hS hl2)
theorem x_iinc (o : Ok k d cc own nL lev) {i : Nat} {n : Int} {x v : Int32} (hdg : decode cc pc = .ok (.iinc i n, 3)) (hi : i < nL) (j : Nat) (hj : ls[j]? = some (i, .int x)) (hv : x + Int32.ofInt n = v) (ls' : List (Nat × Value)) (hl' : (i, Value.int v) :: ls.filter (fun q => !(q.1 == i) && !(q.1 + 1 == i && q.2.category == 2)) = ls') (kk : Wz k d h (pc + 3) ls' st) : Wz k d h pc ls st := fun H locs la hP hS hl => lv_iinc o.1.1 o.1.2.1 hdg hl hj hv (by rw [o.1.2.2.1]; exact hi) hl' (fun la' hl2 => kk H locs la' hP hS hl2)
theorem x_sub (js : List Nat) (ls' : List (Nat × Value)) (hl' : lv_pick ls js = ls') (kk : Wz k d h pc ls' st) : Wz k d h pc ls st := fun H locs la hP hS hl => kk H locs la hP hS (lv_sub hl js hl')
theorem x_iadd (o : Ok k d cc own nL lev) {x y : Int32} (hdg : decode cc pc = .ok (.iadd, 1)) (kk : Wz k d h (pc + 1) ls (.int (x + y) :: st)) : Wz k d h pc ls (.int y :: .int x :: st) := fun H locs la hP hS hl => lv_iadd o.1.1 o.1.2.1 hdg (kk H locs la hP hS hl)
theorem x_isub (o : Ok k d cc own nL lev) {x y : Int32} (hdg : decode cc pc = .ok (.isub, 1)) (kk : Wz k d h (pc + 1) ls (.int (x - y) :: st)) : Wz k d h pc ls (.int y :: .int x :: st) := fun H locs la hP hS hl => lv_isub o.1.1 o.1.2.1 hdg (kk H locs la hP hS hl)
theorem x_imul (o : Ok k d cc own nL lev) {x y : Int32} (hdg : decode cc pc = .ok (.imul, 1)) (kk : Wz k d h (pc + 1) ls (.int (x * y) :: st)) : Wz k d h pc ls (.int y :: .int x :: st) := fun H locs la hP hS hl => lv_imul o.1.1 o.1.2.1 hdg (kk H locs la hP hS hl)
theorem x_iand (o : Ok k d cc own nL lev) {x y : Int32} (hdg : decode cc pc = .ok (.iand, 1)) (kk : Wz k d h (pc + 1) ls (.int (x &&& y) :: st)) : Wz k d h pc ls (.int y :: .int x :: st) := fun H locs la hP hS hl => lv_iand o.1.1 o.1.2.1 hdg (kk H locs la hP hS hl)
theorem x_ior (o : Ok k d cc own nL lev) {x y : Int32} (hdg : decode cc pc = .ok (.ior, 1)) (kk : Wz k d h (pc + 1) ls (.int (x ||| y) :: st)) : Wz k d h pc ls (.int y :: .int x :: st) := fun H locs la hP hS hl => lv_ior o.1.1 o.1.2.1 hdg (kk H locs la hP hS hl)
theorem x_ixor (o : Ok k d cc own nL lev) {x y : Int32} (hdg : decode cc pc = .ok (.ixor, 1)) (kk : Wz k d h (pc + 1) ls (.int (x ^^^ y) :: st)) : Wz k d h pc ls (.int y :: .int x :: st) := fun H locs la hP hS hl => lv_ixor o.1.1 o.1.2.1 hdg (kk H locs la hP hS hl)
theorem x_idiv (o : Ok k d cc own nL lev) {x y : Int32} (hdg : decode cc pc = .ok (.idiv, 1)) (hne : ¬ y = 0) (kk : Wz k d h (pc + 1) ls (.int (x / y) :: st)) : Wz k d h pc ls (.int y :: .int x :: st) := fun H locs la hP hS hl => lv_idiv o.1.1 o.1.2.1 hdg hne (kk H locs la hP hS hl)
theorem x_ineg (o : Ok k d cc own nL lev) {x : Int32} (hdg : decode cc pc = .ok (.ineg, 1)) (kk : Wz k d h (pc + 1) ls (.int (-x) :: st)) : Wz k d h pc ls (.int x :: st) := fun H locs la hP hS hl => lv_ineg o.1.1 o.1.2.1 hdg (kk H locs la hP hS hl)
theorem x_ishl (o : Ok k d cc own nL lev) {x y : Int32} (hdg : decode cc pc = .ok (.ishl, 1)) (kk : Wz k d h (pc + 1) ls (.int (x <<< (y &&& 31)) :: st)) : Wz k d h pc ls (.int y :: .int x :: st) := fun H locs la hP hS hl => lv_ishl o.1.1 o.1.2.1 hdg (kk H locs la hP hS hl)
theorem x_ishr (o : Ok k d cc own nL lev) {x y : Int32} (hdg : decode cc pc = .ok (.ishr, 1)) (kk : Wz k d h (pc + 1) ls (.int (x >>> (y &&& 31)) :: st)) : Wz k d h pc ls (.int y :: .int x :: st) := fun H locs la hP hS hl => lv_ishr o.1.1 o.1.2.1 hdg (kk H locs la hP hS hl)
theorem x_iushr (o : Ok k d cc own nL lev) {x y : Int32} (hdg : decode cc pc = .ok (.iushr, 1)) (kk : Wz k d h (pc + 1) ls (.int (x.toUInt32 >>> (y.toUInt32 &&& Int32.toUInt32 31)).toInt32 :: st)) : Wz k d h pc ls (.int y :: .int x :: st) := fun H locs la hP hS hl => lv_iushr o.1.1 o.1.2.1 hdg rfl (kk H locs la hP hS hl)
theorem x_i2b (o : Ok k d cc own nL lev) {x : Int32} (hdg : decode cc pc = .ok (.i2b, 1)) (kk : Wz k d h (pc + 1) ls (.int x.toInt8.toInt32 :: st)) : Wz k d h pc ls (.int x :: st) := fun H locs la hP hS hl => lv_i2b o.1.1 o.1.2.1 hdg rfl (kk H locs la hP hS hl)
theorem x_dup (o : Ok k d cc own nL lev) {v : Value} (hdg : decode cc pc = .ok (.dup, 1)) (hv : v.category = 1) (kk : Wz k d h (pc + 1) ls (v :: v :: st)) : Wz k d h pc ls (v :: st) := fun H locs la hP hS hl => lv_dup o.1.1 o.1.2.1 hdg hv (kk H locs la hP hS hl)
theorem x_pop (o : Ok k d cc own nL lev) {v : Value} (hdg : decode cc pc = .ok (.pop, 1)) (hv : v.category = 1) (kk : Wz k d h (pc + 1) ls st) : Wz k d h pc ls (v :: st) := fun H locs la hP hS hl => lv_pop o.1.1 o.1.2.1 hdg hv (kk H locs la hP hS hl)
theorem x_goto (o : Ok k d cc own nL lev) {off : Int} (tgt : Nat) (hdg : decode cc pc = .ok (.goto off, 3)) (ht : (pc : Int) + off = (tgt : Int)) (kk : Wz k d h tgt ls st) : Wz k d h pc ls st := fun H locs la hP hS hl => lv_goto o.1.1 o.1.2.1 hdg ht (kk H locs la hP hS hl)
end rows
-- if eq: x = 0
-- icmp eq: x = y
-- if ne: ¬ x = 0
-- icmp ne: ¬ x = y
-- if lt: x < 0
-- icmp lt: x < y
-- if ge: 0 ≤ x
-- icmp ge: y ≤ x
-- if gt: 0 < x
-- icmp gt: y < x
-- if le: x ≤ 0
-- icmp le: x ≤ y
section rows2
variable {k : Kst} {d : Kdy} {cc : ByteArray} {own : String} {nL lev : Nat} {h : Hp} {pc : Nat} {ls : List (Nat × Value)} {st : List Value}
theorem x_if_eq (o : Ok k d cc own nL lev) {x : Int32} {off : Int} (tgt : Nat) (hdg : decode cc pc = .ok (.ifCond .eq off, 3)) (ht : (pc : Int) + off = (tgt : Int)) (kt : x = 0 → Wz k d h tgt ls st) (kf : ¬ x = 0 → Wz k d h (pc + 3) ls st) : Wz k d h pc ls (.int x :: st) := fun H locs la hP hS hl => lv_if_eq o.1.1 o.1.2.1 hdg ht (fun c => kt c H locs la hP hS hl) (fun c => kf c H locs la hP hS hl)
theorem x_icmp_eq (o : Ok k d cc own nL lev) {x y : Int32} {off : Int} (tgt : Nat) (hdg : decode cc pc = .ok (.if_icmp .eq off, 3)) (ht : (pc : Int) + off = (tgt : Int)) (kt : x = y → Wz k d h tgt ls st) (kf : ¬ x = y → Wz k d h (pc + 3) ls st) : Wz k d h pc ls (.int y :: .int x :: st) := fun H locs la hP hS hl => lv_icmp_eq o.1.1 o.1.2.1 hdg ht (fun c => kt c H locs la hP hS hl) (fun c => kf c H locs la hP hS hl)
theorem x_if_ne (o : Ok k d cc own nL lev) {x : Int32} {off : Int} (tgt : Nat) (hdg : decode cc pc = .ok (.ifCond .ne off, 3)) (ht : (pc : Int) + off = (tgt : Int)) (kt : ¬ x = 0 → Wz k d h tgt ls st) (kf : x = 0 → Wz k d h (pc + 3) ls st) : Wz k d h pc ls (.int x :: st) := fun H locs la hP hS hl => lv_if_ne o.1.1 o.1.2.1 hdg ht (fun c => kt c H locs la hP hS hl) (fun c => kf c H locs la hP hS hl)
theorem x_icmp_ne (o : Ok k d cc own nL lev) {x y : Int32} {off : Int} (tgt : Nat) (hdg : decode cc pc = .ok (.if_icmp .ne off, 3)) (ht : (pc : Int) + off = (tgt : Int)) (kt : ¬ x = y → Wz k d h tgt ls st) (kf : x = y → Wz k d h (pc + 3) ls st) : Wz k d h pc ls (.int y :: .int x :: st) := fun H locs la hP hS hl => lv_icmp_ne o.1.1 o.1.2.1 hdg ht (fun c => kt c H locs la hP hS hl) (fun c => kf c H locs la hP hS hl)
theorem x_if_lt (o : Ok k d cc own nL lev) {x : Int32} {off : Int} (tgt : Nat) (hdg : decode cc pc = .ok (.ifCond .lt off, 3)) (ht : (pc : Int) + off = (tgt : Int)) (kt : x < 0 → Wz k d h tgt ls st) (kf : ¬ x < 0 → Wz k d h (pc + 3) ls st) : Wz k d h pc ls (.int x :: st) := fun H locs la hP hS hl => lv_if_lt o.1.1 o.1.2.1 hdg ht (fun c => kt c H locs la hP hS hl) (fun c => kf c H locs la hP hS hl)
theorem x_icmp_lt (o : Ok k d cc own nL lev) {x y : Int32} {off : Int} (tgt : Nat) (hdg : decode cc pc = .ok (.if_icmp .lt off, 3)) (ht : (pc : Int) + off = (tgt : Int)) (kt : x < y → Wz k d h tgt ls st) (kf : ¬ x < y → Wz k d h (pc + 3) ls st) : Wz k d h pc ls (.int y :: .int x :: st) := fun H locs la hP hS hl => lv_icmp_lt o.1.1 o.1.2.1 hdg ht (fun c => kt c H locs la hP hS hl) (fun c => kf c H locs la hP hS hl)
theorem x_if_ge (o : Ok k d cc own nL lev) {x : Int32} {off : Int} (tgt : Nat) (hdg : decode cc pc = .ok (.ifCond .ge off, 3)) (ht : (pc : Int) + off = (tgt : Int)) (kt : 0 ≤ x → Wz k d h tgt ls st) (kf : ¬ 0 ≤ x → Wz k d h (pc + 3) ls st) : Wz k d h pc ls (.int x :: st) := fun H locs la hP hS hl => lv_if_ge o.1.1 o.1.2.1 hdg ht (fun c => kt c H locs la hP hS hl) (fun c => kf c H locs la hP hS hl)
theorem x_icmp_ge (o : Ok k d cc own nL lev) {x y : Int32} {off : Int} (tgt : Nat) (hdg : decode cc pc = .ok (.if_icmp .ge off, 3)) (ht : (pc : Int) + off = (tgt : Int)) (kt : y ≤ x → Wz k d h tgt ls st) (kf : ¬ y ≤ x → Wz k d h (pc + 3) ls st) : Wz k d h pc ls (.int y :: .int x :: st) := fun H locs la hP hS hl => lv_icmp_ge o.1.1 o.1.2.1 hdg ht (fun c => kt c H locs la hP hS hl) (fun c => kf c H locs la hP hS hl)
theorem x_if_gt (o : Ok k d cc own nL lev) {x : Int32} {off : Int} (tgt : Nat) (hdg : decode cc pc = .ok (.ifCond .gt off, 3)) (ht : (pc : Int) + off = (tgt : Int)) (kt : 0 < x → Wz k d h tgt ls st) (kf : ¬ 0 < x → Wz k d h (pc + 3) ls st) : Wz k d h pc ls (.int x :: st) := fun H locs la hP hS hl => lv_if_gt o.1.1 o.1.2.1 hdg ht (fun c => kt c H locs la hP hS hl) (fun c => kf c H locs la hP hS hl)
theorem x_icmp_gt (o : Ok k d cc own nL lev) {x y : Int32} {off : Int} (tgt : Nat) (hdg : decode cc pc = .ok (.if_icmp .gt off, 3)) (ht : (pc : Int) + off = (tgt : Int)) (kt : y < x → Wz k d h tgt ls st) (kf : ¬ y < x → Wz k d h (pc + 3) ls st) : Wz k d h pc ls (.int y :: .int x :: st) := fun H locs la hP hS hl => lv_icmp_gt o.1.1 o.1.2.1 hdg ht (fun c => kt c H locs la hP hS hl) (fun c => kf c H locs la hP hS hl)
theorem x_if_le (o : Ok k d cc own nL lev) {x : Int32} {off : Int} (tgt : Nat) (hdg : decode cc pc = .ok (.ifCond .le off, 3)) (ht : (pc : Int) + off = (tgt : Int)) (kt : x ≤ 0 → Wz k d h tgt ls st) (kf : ¬ x ≤ 0 → Wz k d h (pc + 3) ls st) : Wz k d h pc ls (.int x :: st) := fun H locs la hP hS hl => lv_if_le o.1.1 o.1.2.1 hdg ht (fun c => kt c H locs la hP hS hl) (fun c => kf c H locs la hP hS hl)
theorem x_icmp_le (o : Ok k d cc own nL lev) {x y : Int32} {off : Int} (tgt : Nat) (hdg : decode cc pc = .ok (.if_icmp .le off, 3)) (ht : (pc : Int) + off = (tgt : Int)) (kt : x ≤ y → Wz k d h tgt ls st) (kf : ¬ x ≤ y → Wz k d h (pc + 3) ls st) : Wz k d h pc ls (.int y :: .int x :: st) := fun H locs la hP hS hl => lv_icmp_le o.1.1 o.1.2.1 hdg ht (fun c => kt c H locs la hP hS hl) (fun c => kf c H locs la hP hS hl)
end rows2
section rows3
variable {k : Kst} {d : Kdy} {cc : ByteArray} {own : String} {nL lev : Nat} {h : Hp} {pc : Nat} {ls : List (Nat × Value)} {st : List Value}
theorem fs_up {i ci f n : Nat} {x : Int32} (hi : kd i = (0, ci)) (hr : fR ci f = false) : ((List.range n).map (fv k h i)).set f (.int x) = (List.range n).map (fv k (up h i f x) i) := by
  apply List.ext_getElem?
  intro j
  rw [List.getElem?_set]
  by_cases hj : f = j
  · subst hj
    rw [if_pos rfl]
    by_cases hl : f < n
    · rw [if_pos (by simpa using hl), List.getElem?_map, List.getElem?_range hl]
      simp [fv, hi, hr, up]
    · rw [if_neg (by simpa using hl), List.getElem?_eq_none (by simpa using hl)]
  · rw [if_neg hj, List.getElem?_map, List.getElem?_map]
    by_cases hl : j < n
    · rw [List.getElem?_range hl]
      simp only [Option.map_some, Option.some.injEq]
      unfold fv
      rw [up_same (fun e => hj e.2.symm)]
      rfl
    · rw [List.getElem?_eq_none (by simpa using hl)]
      rfl
theorem fs_ur {i ci f n : Nat} {x : Nat} (hi : kd i = (0, ci)) (hr : fR ci f = true) : ((List.range n).map (fv k h i)).set f (.ref (ka k x)) = (List.range n).map (fv k (ur h i f x) i) := by
  apply List.ext_getElem?
  intro j
  rw [List.getElem?_set]
  by_cases hj : f = j
  · subst hj
    rw [if_pos rfl]
    by_cases hl : f < n
    · rw [if_pos (by simpa using hl), List.getElem?_map, List.getElem?_range hl]
      simp [fv, hi, hr, ur, va_rf]
    · rw [if_neg (by simpa using hl), List.getElem?_eq_none (by simpa using hl)]
  · rw [if_neg hj, List.getElem?_map, List.getElem?_map]
    by_cases hl : j < n
    · rw [List.getElem?_range hl]
      simp only [Option.map_some, Option.some.injEq]
      unfold fv ur
      simp only [true_and, if_neg (fun e : j = f => hj e.symm)]
    · rw [List.getElem?_eq_none (by simpa using hl)]
      rfl
theorem fv_int {i ci f : Nat} (hi : kd i = (0, ci)) (hr : fR ci f = false) : fv k h i f = .int (h.1 i f) := by
  unfold fv
  rw [hi, if_neg (by rw [hr]; decide)]
theorem fv_ref {i ci f j : Nat} (hi : kd i = (0, ci)) (hr : fR ci f = true) (hj : h.2 i f = some j) : fv k h i f = .ref (ka k j) := by
  unfold fv
  rw [hi, if_pos hr, hj]
  rfl
theorem x_get (o : Ok k d cc own nL lev) {i ci f idx : Nat} {C : String} {T : u_T} {N : Nat} {v : Value} (hi : kd i = (0, ci)) (hc : vwCl[ci]? = some (C, T, N)) (hin : ∀ w ∈ u_ws C T N, w ∈ xtb) (hN : fN ci = N) (hf : f < N) (hw : Cond.fieldLink own idx (T f).1 (T f).2.1 (T f).2.2.1 ∈ xtb) (hv : fv k h i f = v) (hdg : decode cc pc = .ok (.getfield idx, 3)) (kk : Wz k d h (pc + 3) ls (v :: st)) : Wz k d h pc ls (.ref (ka k i) :: st) := fun H locs la hP hS hl =>
  va_get (D := kD k) o.1.1 o.1.2.1 o.1.2.2.2.2.1 hin o.1.2.2.2.1 o.1.2.2.2.2.2.1 hP i (by rw [ws_get (o.lt hi (by decide)), ce_o hi]) hc f hf (o.1.2.2.2.2.1 _ hw) (fun _ q => q) (by rw [List.getElem?_map, List.getElem?_range (by rw [hN]; exact hf)]; exact congrArg some hv) hdg (kk H locs la hP hS hl)
theorem x_putI (o : Ok k d cc own nL lev) {i ci f idx : Nat} {C : String} {T : u_T} {N : Nat} {x : Int32} {ty : FieldType} (hi : kd i = (0, ci)) (hc : vwCl[ci]? = some (C, T, N)) (hin : ∀ w ∈ u_ws C T N, w ∈ xtb) (ty0 : Nat → FieldType) (hty : ∀ k, k < N → parseFieldDescriptor (T k).2.2.1 = some (ty0 k)) (hnm : ∀ a, a < N → ∀ b, b < N → a ≠ b → (T a).2.1 ≠ (T b).2.1) (hN : fN ci = N) (hf : f < N) (hr : fR ci f = false) (hfin : (T f).2.2.2 = false) (hd : parseFieldDescriptor (T f).2.2.1 = some ty) (hw : Cond.fieldLink own idx (T f).1 (T f).2.1 (T f).2.2.1 ∈ xtb) (hn : narrow ty (.int x) = .int x) (hfit : fits ty (.int x) = true) (hdg : decode cc pc = .ok (.putfield idx, 3)) (kk : Wz k d (up h i f x) (pc + 3) ls st) : Wz k d h pc ls (.int x :: .ref (ka k i) :: st) := fun H locs la hP hS hl =>
  va_put (D := kD k) o.1.1 o.1.2.1 o.1.2.2.2.2.1 hin ty0 hty hnm o.1.2.2.2.1 o.1.2.2.2.2.2.1 hP (dj_D o.1.2.2.2.2.2.2.1) hS i (by rw [ws_get (o.lt hi (by decide)), ce_o hi]) hc f hf (o.1.2.2.2.2.1 _ hw) (fun _ q => q) hfin hd hn hfit (by rw [List.length_map, List.length_range, hN]; exact hf) hdg (fun H1 locs1 hP1 _ hS1 => kk H1 locs1 la (by
    rw [fs_up hi hr, ← ce_o hi, ws_set rfl (fun j hj => ce_up hj)] at hP1
    exact hP1) hS1 hl)
theorem x_putR (o : Ok k d cc own nL lev) {i ci f idx : Nat} {C : String} {T : u_T} {N : Nat} {x : Nat} {ty : FieldType} (hi : kd i = (0, ci)) (hc : vwCl[ci]? = some (C, T, N)) (hin : ∀ w ∈ u_ws C T N, w ∈ xtb) (ty0 : Nat → FieldType) (hty : ∀ k, k < N → parseFieldDescriptor (T k).2.2.1 = some (ty0 k)) (hnm : ∀ a, a < N → ∀ b, b < N → a ≠ b → (T a).2.1 ≠ (T b).2.1) (hN : fN ci = N) (hf : f < N) (hr : fR ci f = true) (hfin : (T f).2.2.2 = false) (hd : parseFieldDescriptor (T f).2.2.1 = some ty) (hw : Cond.fieldLink own idx (T f).1 (T f).2.1 (T f).2.2.1 ∈ xtb) (hn : narrow ty (.ref (ka k x)) = .ref (ka k x)) (hfit : fits ty (.ref (ka k x)) = true) (hdg : decode cc pc = .ok (.putfield idx, 3)) (kk : Wz k d (ur h i f x) (pc + 3) ls st) : Wz k d h pc ls (.ref (ka k x) :: .ref (ka k i) :: st) := fun H locs la hP hS hl =>
  va_put (D := kD k) o.1.1 o.1.2.1 o.1.2.2.2.2.1 hin ty0 hty hnm o.1.2.2.2.1 o.1.2.2.2.2.2.1 hP (dj_D o.1.2.2.2.2.2.2.1) hS i (by rw [ws_get (o.lt hi (by decide)), ce_o hi]) hc f hf (o.1.2.2.2.2.1 _ hw) (fun _ q => q) hfin hd hn hfit (by rw [List.length_map, List.length_range, hN]; exact hf) hdg (fun H1 locs1 hP1 _ hS1 => kk H1 locs1 la (by
    rw [fs_ur hi hr, ← ce_o hi, ws_set rfl (fun j hj => ce_ur hj)] at hP1
    exact hP1) hS1 hl)
theorem x_getN (o : Ok k d cc own nL lev) {i ci f idx : Nat} {C host : String} {T : u_T} {N : Nat} {v : Value} (hi : kd i = (0, ci)) (hc : vwCl[ci]? = some (C, T, N)) (hin : ∀ w ∈ u_ws C T N, w ∈ xtb) (hN : fN ci = N) (hf : f < N) (hw : Cond.fieldLinkNest own idx (T f).1 (T f).2.1 (T f).2.2.1 host ∈ xtb) (hv : fv k h i f = v) (hdg : decode cc pc = .ok (.getfield idx, 3)) (kk : Wz k d h (pc + 3) ls (v :: st)) : Wz k d h pc ls (.ref (ka k i) :: st) := fun H locs la hP hS hl =>
  va_getN (D := kD k) o.1.1 o.1.2.1 o.1.2.2.2.2.1 hin o.1.2.2.2.1 o.1.2.2.2.2.2.1 hP i (by rw [ws_get (o.lt hi (by decide)), ce_o hi]) hc f hf (o.1.2.2.2.2.1 _ hw) (fun _ q => q) (by rw [List.getElem?_map, List.getElem?_range (by rw [hN]; exact hf)]; exact congrArg some hv) hdg (kk H locs la hP hS hl)
theorem x_putIN (o : Ok k d cc own nL lev) {i ci f idx : Nat} {C host : String} {T : u_T} {N : Nat} {x : Int32} {ty : FieldType} (hi : kd i = (0, ci)) (hc : vwCl[ci]? = some (C, T, N)) (hin : ∀ w ∈ u_ws C T N, w ∈ xtb) (ty0 : Nat → FieldType) (hty : ∀ k, k < N → parseFieldDescriptor (T k).2.2.1 = some (ty0 k)) (hnm : ∀ a, a < N → ∀ b, b < N → a ≠ b → (T a).2.1 ≠ (T b).2.1) (hN : fN ci = N) (hf : f < N) (hr : fR ci f = false) (hfin : (T f).2.2.2 = false) (hd : parseFieldDescriptor (T f).2.2.1 = some ty) (hw : Cond.fieldLinkNest own idx (T f).1 (T f).2.1 (T f).2.2.1 host ∈ xtb) (hn : narrow ty (.int x) = .int x) (hfit : fits ty (.int x) = true) (hdg : decode cc pc = .ok (.putfield idx, 3)) (kk : Wz k d (up h i f x) (pc + 3) ls st) : Wz k d h pc ls (.int x :: .ref (ka k i) :: st) := fun H locs la hP hS hl =>
  va_putN (D := kD k) o.1.1 o.1.2.1 o.1.2.2.2.2.1 hin ty0 hty hnm o.1.2.2.2.1 o.1.2.2.2.2.2.1 hP (dj_D o.1.2.2.2.2.2.2.1) hS i (by rw [ws_get (o.lt hi (by decide)), ce_o hi]) hc f hf (o.1.2.2.2.2.1 _ hw) (fun _ q => q) hfin hd hn hfit (by rw [List.length_map, List.length_range, hN]; exact hf) hdg (fun H1 locs1 hP1 _ hS1 => kk H1 locs1 la (by
    rw [fs_up hi hr, ← ce_o hi, ws_set rfl (fun j hj => ce_up hj)] at hP1
    exact hP1) hS1 hl)
theorem x_putRN (o : Ok k d cc own nL lev) {i ci f idx : Nat} {C host : String} {T : u_T} {N : Nat} {x : Nat} {ty : FieldType} (hi : kd i = (0, ci)) (hc : vwCl[ci]? = some (C, T, N)) (hin : ∀ w ∈ u_ws C T N, w ∈ xtb) (ty0 : Nat → FieldType) (hty : ∀ k, k < N → parseFieldDescriptor (T k).2.2.1 = some (ty0 k)) (hnm : ∀ a, a < N → ∀ b, b < N → a ≠ b → (T a).2.1 ≠ (T b).2.1) (hN : fN ci = N) (hf : f < N) (hr : fR ci f = true) (hfin : (T f).2.2.2 = false) (hd : parseFieldDescriptor (T f).2.2.1 = some ty) (hw : Cond.fieldLinkNest own idx (T f).1 (T f).2.1 (T f).2.2.1 host ∈ xtb) (hn : narrow ty (.ref (ka k x)) = .ref (ka k x)) (hfit : fits ty (.ref (ka k x)) = true) (hdg : decode cc pc = .ok (.putfield idx, 3)) (kk : Wz k d (ur h i f x) (pc + 3) ls st) : Wz k d h pc ls (.ref (ka k x) :: .ref (ka k i) :: st) := fun H locs la hP hS hl =>
  va_putN (D := kD k) o.1.1 o.1.2.1 o.1.2.2.2.2.1 hin ty0 hty hnm o.1.2.2.2.1 o.1.2.2.2.2.2.1 hP (dj_D o.1.2.2.2.2.2.2.1) hS i (by rw [ws_get (o.lt hi (by decide)), ce_o hi]) hc f hf (o.1.2.2.2.2.1 _ hw) (fun _ q => q) hfin hd hn hfit (by rw [List.length_map, List.length_range, hN]; exact hf) hdg (fun H1 locs1 hP1 _ hS1 => kk H1 locs1 la (by
    rw [fs_ur hi hr, ← ce_o hi, ws_set rfl (fun j hj => ce_ur hj)] at hP1
    exact hP1) hS1 hl)
theorem vin_of {i : Int32} {n : Nat} (hi : 0 ≤ i.toInt ∧ i.toInt < n) : vp_in i n := vp_in_iff.mpr hi
theorem x_iald (o : Ok k d cc own nL lev) {a : Nat} {i : Int32} (ha : (kd a).1 = 1) (hi : 0 ≤ i.toInt ∧ i.toInt < (kd a).2) (hdg : decode cc pc = .ok (.iaload, 1)) (kk : Wz k d h (pc + 1) ls (.int (h.1 a i.toInt.toNat) :: st)) : Wz k d h pc ls (.int i :: .ref (ka k a) :: st) := fun H locs la hP hS hl =>
  va_iald (D := kD k) o.1.1 o.1.2.1 o.1.2.2.2.2.2.1 hP a 0 (by rw [ws_get (o.lt (show kd a = (1, (kd a).2) by rw [← ha]) (by decide)), ce_i ha]) rfl (vin_of hi) hdg (kk H locs la hP hS hl)
theorem x_bald (o : Ok k d cc own nL lev) {a : Nat} {i : Int32} (ha : (kd a).1 = 2) (hi : 0 ≤ i.toInt ∧ i.toInt < (kd a).2) (hdg : decode cc pc = .ok (.baload, 1)) (kk : Wz k d h (pc + 1) ls (.int (h.1 a i.toInt.toNat) :: st)) : Wz k d h pc ls (.int i :: .ref (ka k a) :: st) := fun H locs la hP hS hl =>
  va_bald (D := kD k) o.1.1 o.1.2.1 o.1.2.2.2.2.2.1 hP a 1 (by rw [ws_get (o.lt (show kd a = (2, (kd a).2) by rw [← ha]) (by decide)), ce_b ha]) rfl (vin_of hi) hdg (kk H locs la hP hS hl)
theorem up_arr {a j : Nat} {x : Int32} : (up h a j x).1 a = upd (h.1 a) j x := by
  funext q
  by_cases hq : q = j
  · simp [up, upd, hq]
  · simp [up, upd, hq]
theorem x_iast (o : Ok k d cc own nL lev) {a : Nat} {i x : Int32} (ha : (kd a).1 = 1) (hi : 0 ≤ i.toInt ∧ i.toInt < (kd a).2) (hdg : decode cc pc = .ok (.iastore, 1)) (kk : Wz k d (up h a i.toInt.toNat x) (pc + 1) ls st) : Wz k d h pc ls (.int x :: .int i :: .ref (ka k a) :: st) := fun H locs la hP hS hl =>
  va_iast (D := kD k) o.1.1 o.1.2.1 o.1.2.2.2.2.2.1 hP (dj_D o.1.2.2.2.2.2.2.1) hS a 0 (by rw [ws_get (o.lt (show kd a = (1, (kd a).2) by rw [← ha]) (by decide)), ce_i ha]) rfl (vin_of hi) hdg (fun H1 locs1 hP1 _ hS1 => kk H1 locs1 la (by
    rw [ws_set (h' := up h a i.toInt.toNat x) (by rw [ce_i ha, up_arr]; rfl) (fun j hj => ce_up hj)] at hP1
    exact hP1) hS1 hl)
theorem x_bast (o : Ok k d cc own nL lev) {a : Nat} {i x : Int32} (ha : (kd a).1 = 2) (hi : 0 ≤ i.toInt ∧ i.toInt < (kd a).2) (hdg : decode cc pc = .ok (.bastore, 1)) (kk : Wz k d (up h a i.toInt.toNat x.toInt8.toInt32) (pc + 1) ls st) : Wz k d h pc ls (.int x :: .int i :: .ref (ka k a) :: st) := fun H locs la hP hS hl =>
  va_bast (D := kD k) o.1.1 o.1.2.1 o.1.2.2.2.2.2.1 hP (dj_D o.1.2.2.2.2.2.2.1) hS a 1 (by rw [ws_get (o.lt (show kd a = (2, (kd a).2) by rw [← ha]) (by decide)), ce_b ha]) rfl (vin_of hi) hdg (fun H1 locs1 hP1 _ hS1 => kk H1 locs1 la (by
    rw [ws_set (h' := up h a i.toInt.toNat x.toInt8.toInt32) (by rw [ce_b ha, up_arr, vp_nar_byte]; rfl) (fun j hj => ce_up hj)] at hP1
    exact hP1) hS1 hl)
theorem x_aleni (o : Ok k d cc own nL lev) {a : Nat} (ha : (kd a).1 = 1) (hdg : decode cc pc = .ok (.arraylength, 1)) (kk : Wz k d h (pc + 1) ls (.int (Int32.ofNat (kd a).2) :: st)) : Wz k d h pc ls (.ref (ka k a) :: st) := fun H locs la hP hS hl =>
  va_alen (D := kD k) o.1.1 o.1.2.1 o.1.2.2.2.2.2.1 hP a 0 (by rw [ws_get (o.lt (show kd a = (1, (kd a).2) by rw [← ha]) (by decide)), ce_i ha]) rfl rfl hdg (kk H locs la hP hS hl)
theorem x_mmin (o : Ok k d cc own nL lev) {x y : Int32} {idx : Nat} (m1 : Cond.methodLink own idx Lib.Math.min.name ∈ xtb) (hv : 1 ≤ lev) (hr : (st.map fun v => v.category).sum ≤ 8) (hdg : decode cc pc = .ok (.invokestatic idx, 3)) (kk : Wz k d h (pc + 3) ls (.int (if y < x then y else x) :: st)) : Wz k d h pc ls (.int y :: .int x :: st) := fun H locs la hP hS hl =>
  va_mmin o.1.1 o.1.2.1 hl.1.symm o.1.2.2.2.1 (o.1.2.2.2.2.1 _ m1) (o.1.2.2.2.2.1 _ mm_min_s) (o.1.2.2.2.2.1 _ mm_init) (o.1.2.2.2.2.1 _ mm_min_c) (by have := o.1.2.2.2.2.2.2.2.1; omega) (by have := o.1.2.2.2.2.2.2.2.2.1; omega) o.1.2.2.2.2.2.2.2.2.2.1 o.1.2.2.2.2.2.2.2.2.2.2 hdg (kk H locs la hP hS hl)
theorem x_mmax (o : Ok k d cc own nL lev) {x y : Int32} {idx : Nat} (m1 : Cond.methodLink own idx Lib.Math.max.name ∈ xtb) (hv : 1 ≤ lev) (hr : (st.map fun v => v.category).sum ≤ 8) (hdg : decode cc pc = .ok (.invokestatic idx, 3)) (kk : Wz k d h (pc + 3) ls (.int (if x < y then y else x) :: st)) : Wz k d h pc ls (.int y :: .int x :: st) := fun H locs la hP hS hl =>
  va_mmax o.1.1 o.1.2.1 hl.1.symm o.1.2.2.2.1 (o.1.2.2.2.2.1 _ m1) (o.1.2.2.2.2.1 _ mm_max_s) (o.1.2.2.2.2.1 _ mm_init) (o.1.2.2.2.2.1 _ mm_max_c) (by have := o.1.2.2.2.2.2.2.2.1; omega) (by have := o.1.2.2.2.2.2.2.2.2.1; omega) o.1.2.2.2.2.2.2.2.2.2.1 o.1.2.2.2.2.2.2.2.2.2.2 hdg (kk H locs la hP hS hl)
theorem x_mabs (o : Ok k d cc own nL lev) {x : Int32} {idx : Nat} (m1 : Cond.methodLink own idx Lib.Math.abs.name ∈ xtb) (hv : 1 ≤ lev) (hr : (st.map fun v => v.category).sum ≤ 8) (hdg : decode cc pc = .ok (.invokestatic idx, 3)) (kk : Wz k d h (pc + 3) ls (.int (if 0 ≤ x then x else 0 - x) :: st)) : Wz k d h pc ls (.int x :: st) := fun H locs la hP hS hl =>
  va_mabs o.1.1 o.1.2.1 hl.1.symm o.1.2.2.2.1 (o.1.2.2.2.2.1 _ m1) (o.1.2.2.2.2.1 _ mm_abs_s) (o.1.2.2.2.2.1 _ mm_init) (o.1.2.2.2.2.1 _ mm_abs_c) (by have := o.1.2.2.2.2.2.2.2.1; omega) (by have := o.1.2.2.2.2.2.2.2.2.1; omega) o.1.2.2.2.2.2.2.2.2.2.1 o.1.2.2.2.2.2.2.2.2.2.2 hdg (kk H locs la hP hS hl)
theorem uc_arr {a b sp dp n : Nat} : (uc h a b sp dp n).1 b = va_cpy (h.1 a) (h.1 b) sp dp n := by
  funext q
  simp [uc]
theorem x_copy (o : Ok k d cc own nL lev) {a b : Nat} {sp dp n : Int32} {idx : Nat} (m1 : Cond.methodLink own idx arraycopyName ∈ xtb) (hv : 2 ≤ lev) (ha : (kd a).1 = 1) (hb : (kd b).1 = 1) (h1 : ¬ sp < 0) (h2 : ¬ dp < 0) (h3 : ¬ n < 0) (h4 : sp.toInt.toNat + n.toInt.toNat ≤ (kd a).2) (h5 : dp.toInt.toNat + n.toInt.toNat ≤ (kd b).2) (hr : (st.map fun v => v.category).sum ≤ 8) (hdg : decode cc pc = .ok (.invokestatic idx, 3)) (kk : Wz k d (uc h a b sp.toInt.toNat dp.toInt.toNat n.toInt.toNat) (pc + 3) ls st) : Wz k d h pc ls (.int n :: .int dp :: .ref (ka k b) :: .int sp :: .ref (ka k a) :: st) := fun H locs la hP hS hl =>
  va_copyi (D := kD k) o.1.1 o.1.2.1 hl.1.symm o.1.2.2.2.1 (o.1.2.2.2.2.1 _ m1) (o.1.2.2.2.2.1 _ mm_copy_n) (o.1.2.2.2.2.1 _ mm_copy_s) (o.1.2.2.2.2.1 _ mm_copy_i) o.1.2.2.2.2.2.1 hP (dj_D o.1.2.2.2.2.2.2.1) hS a b 0 0 (by rw [ws_get (o.lt (show kd a = (1, (kd a).2) by rw [← ha]) (by decide)), ce_i ha]) (by rw [ws_get (o.lt (show kd b = (1, (kd b).2) by rw [← hb]) (by decide)), ce_i hb]) rfl rfl rfl h1 h2 h3 h4 h5 (fun _ _ => rfl) (by have := o.1.2.2.2.2.2.2.2.1; omega) (by
    have e : nativeFrameWords "java/lang/System" "arraycopy" 5 + 11 ≤ 100 := by decide +kernel
    have := o.1.2.2.2.2.2.2.2.2.1; omega) hdg (fun H1 locs1 hP1 _ hS1 => kk H1 locs1 la (by
    rw [ws_set (h' := uc h a b sp.toInt.toNat dp.toInt.toNat n.toInt.toNat) (by rw [ce_i hb, uc_arr]; rfl) (fun j hj => ce_uc hj)] at hP1
    exact hP1) hS1 hl)
end rows3
/-- the state of both systems, as a caller and its callee see it -/
def Wd (k : Kst) (h : Hp) (U : State) : Prop := va_P (kD k) vwCl (ws k h) U.heap ∧ va_K (kD k) vwCl [(kI k, .int), (kB k, .byte)] U ∧ ∀ w ∈ xtb, isNest w = true → va_Nw w U
def Wq (k : Kst) (h : Hp) (U : State) : Prop := va_P (kD k) vwCl (ws k h) U.heap
def rm (lev : Nat) : Room := { frames := lev, cells := 0, slots := 0, locals := 64 * lev }
abbrev ca (y : MethodName) (cc : ByteArray) (nL : Nat) (ret : Option FieldType) : List Cond := .code y cc nL ret :: gtb
/-- CONTRACTS: with these arguments, from state h, the method answers r (nothing, object r) and leaves state h' -/
def MI (k : Kst) (lev : Nat) (y : MethodName) (cc : ByteArray) (nL : Nat) (ret : Option FieldType) (as : List Value) (h : Hp) (r : Int32) (h' : Hp) : Prop := Met (kl k) y (ca y cc nL ret) (rm lev) (va_Pc as (Wd k h)) (va_Qi (fun r' (_ : Unit) => r' = r) (fun _ => Wq k h') (kA k)) 0 0 (kA k)
def MV (k : Kst) (lev : Nat) (y : MethodName) (cc : ByteArray) (nL : Nat) (as : List Value) (h : Hp) (h' : Hp) : Prop := Met (kl k) y (ca y cc nL none) (rm lev) (va_Pc as (Wd k h)) (va_Qv (fun (_ : Unit) => True) (fun _ => Wq k h') (kA k)) 0 0 (kA k)
def MR (k : Kst) (lev : Nat) (y : MethodName) (cc : ByteArray) (nL : Nat) (ret : Option FieldType) (as : List Value) (h : Hp) (r : Nat) (h' : Hp) : Prop := Met (kl k) y (ca y cc nL ret) (rm lev) (va_Pc as (Wd k h)) (va_Qr (fun (_ : Unit) => True) (fun _ a t => a = ka k r ∧ Wq k h' t) (kA k)) 0 0 (kA k)
theorem Wd.blind {k : Kst} {h : Hp} {as : List Value} : FrameBlind (va_Pc as (Wd k h)) := fun a U g mk q => ⟨q.1, q.2.1, va_K.moved (u := U) (U := U.calling g mk a) (Vm.Alike.refl U.vm) q.2.2.1, fun w hw hn => nw_same (s := U) (U := U.calling g mk a) hn rfl (q.2.2.2 w hw hn)⟩
theorem g_all {y : MethodName} {cc : ByteArray} {nL : Nat} {ret : Option FieldType} (h : Cond.code y cc nL ret ∈ xtb) : GoodIn xtb (ca y cc nL ret) := fun w hw => by
  rcases List.mem_cons.mp hw with rfl | hw
  · exact ⟨h, Or.inl rfl⟩
  · exact ⟨(gtb_in hw).1, good_of_word (gtb_in hw).2⟩
theorem g_cons {w : Cond} {ws : List Cond} (h : w ∈ xtb) (hg : goodWord w = true) (g : GoodIn xtb ws) : GoodIn xtb (w :: ws) := fun v hv => by
  rcases List.mem_cons.mp hv with rfl | hv
  · exact ⟨h, good_of_word hg⟩
  · exact g v hv
section calls
variable {k : Kst} {d : Kdy} {cc : ByteArray} {own : String} {nL lev : Nat} {h : Hp} {pc : Nat} {ls : List (Nat × Value)} {st : List Value}
theorem x_callVI (o : Ok k d cc own nL lev) {C : String} {T : u_T} {N ci i : Nat} {y : MethodName} {bytes : ByteArray} {mL idx lv n : Nat} {ret : Option FieldType} (As st : List Value) {st0 : List Value} {r : Int32} {h1 : Hp} (hM : MI k lv y bytes mL ret (.ref (ka k i) :: As) h r h1) (hlv : lv + 1 ≤ lev) (hmL : mL ≤ 45) (hi : kd i = (0, ci)) (hc : vwCl[ci]? = some (C, T, N)) (m1 : Cond.methodLink own idx y ∈ xtb) (m2 : Cond.instanceMethod y ∈ xtb) (m3 : Cond.selects C y y ∈ xtb) (m4 : Cond.initialized C ∈ xtb) (m5 : Cond.code y bytes mL ret ∈ xtb) (hd : y.cls = C ∧ y.cls ≠ "java/lang/invoke/MethodHandle" ∧ y.cls ≠ "java/lang/invoke/VarHandle" ∧ (parseMethodDescriptor y.desc).map (fun d => d.parameters.length) = some n) (hst : st0 = As.reverse ++ .ref (ka k i) :: st) (hn : As.length = n) (hr : (st.map fun v => v.category).sum ≤ 8) (hdg : decode cc pc = .ok (.invokevirtual idx, 3)) (kk : Wz k d h1 (pc + 3) ls (.int r :: st)) : Wz k d h pc ls st0 := fun H locs la hP hS hl => by
  refine va_calli (a := ((.ref (ka k i) :: As) : List Value).toArray) (va_runV (As := As) (rest := st) ⟨o.1.1, o.1.2.1, o.1.2.2.1, o.1.2.2.2.1, o.1.2.2.2.2.1⟩ hM (cwV n o.1.2.2.2.2.1 (g_cons m1 rfl (g_cons m2 rfl (g_cons m3 rfl (g_cons m4 rfl (g_all m5))))) rfl rfl rfl hd ⟨by show lv + 1 ≤ _; have := o.1.2.2.2.2.2.2.2.1; omega, by show 8 + (mL + 11) + 64 * lv ≤ _; have := o.1.2.2.2.2.2.2.2.2.1; omega⟩) ⟨Wd.blind, va_recv o.1.2.2.2.2.2.1 hP hc (ws_get (o.lt hi (by decide)) |>.trans (by rw [ce_o hi])), fun U hU hW => ⟨rfl, by rw [hU]; exact hP, va_K.moved hW.alike o.1.2.2.2.2.2.1, fun w hw hn => nw_warm hn hW (nw_of hn (o.1.2.2.2.2.1 w hw))⟩⟩ rfl hn (hl.1.trans o.1.2.2.1) hst (lv_room hr) hdg ⟨o.1.2.2.2.2.2.2.2.2.2.1, o.1.2.2.2.2.2.2.2.2.2.2⟩) hS (fun q _ z => z) (fun q z => z) (fun r9 u t H1 locs1 ht hvm hw hB _ _ hS1 => by
    subst hw
    exact kk H1 locs1 la (by rw [← ht]; exact hB) hS1 hl)
theorem x_callVV (o : Ok k d cc own nL lev) {C : String} {T : u_T} {N ci i : Nat} {y : MethodName} {bytes : ByteArray} {mL idx lv n : Nat}  (As st : List Value) {st0 : List Value}  {h1 : Hp} (hM : MV k lv y bytes mL (.ref (ka k i) :: As) h h1) (hlv : lv + 1 ≤ lev) (hmL : mL ≤ 45) (hi : kd i = (0, ci)) (hc : vwCl[ci]? = some (C, T, N)) (m1 : Cond.methodLink own idx y ∈ xtb) (m2 : Cond.instanceMethod y ∈ xtb) (m3 : Cond.selects C y y ∈ xtb) (m4 : Cond.initialized C ∈ xtb) (m5 : Cond.code y bytes mL none ∈ xtb) (hd : y.cls = C ∧ y.cls ≠ "java/lang/invoke/MethodHandle" ∧ y.cls ≠ "java/lang/invoke/VarHandle" ∧ (parseMethodDescriptor y.desc).map (fun d => d.parameters.length) = some n) (hst : st0 = As.reverse ++ .ref (ka k i) :: st) (hn : As.length = n) (hr : (st.map fun v => v.category).sum ≤ 8) (hdg : decode cc pc = .ok (.invokevirtual idx, 3)) (kk : Wz k d h1 (pc + 3) ls st) : Wz k d h pc ls st0 := fun H locs la hP hS hl => by
  refine va_callv (a := ((.ref (ka k i) :: As) : List Value).toArray) (va_runV (As := As) (rest := st) ⟨o.1.1, o.1.2.1, o.1.2.2.1, o.1.2.2.2.1, o.1.2.2.2.2.1⟩ hM (cwV n o.1.2.2.2.2.1 (g_cons m1 rfl (g_cons m2 rfl (g_cons m3 rfl (g_cons m4 rfl (g_all m5))))) rfl rfl rfl hd ⟨by show lv + 1 ≤ _; have := o.1.2.2.2.2.2.2.2.1; omega, by show 8 + (mL + 11) + 64 * lv ≤ _; have := o.1.2.2.2.2.2.2.2.2.1; omega⟩) ⟨Wd.blind, va_recv o.1.2.2.2.2.2.1 hP hc (ws_get (o.lt hi (by decide)) |>.trans (by rw [ce_o hi])), fun U hU hW => ⟨rfl, by rw [hU]; exact hP, va_K.moved hW.alike o.1.2.2.2.2.2.1, fun w hw hn => nw_warm hn hW (nw_of hn (o.1.2.2.2.2.1 w hw))⟩⟩ rfl hn (hl.1.trans o.1.2.2.1) hst (lv_room hr) hdg ⟨o.1.2.2.2.2.2.2.2.2.2.1, o.1.2.2.2.2.2.2.2.2.2.2⟩) hS (fun q _ z => z) (fun q z => z) (fun u t H1 locs1 ht hvm hw hB _ _ hS1 => kk H1 locs1 la (by rw [← ht]; exact hB) hS1 hl)
theorem x_callVR (o : Ok k d cc own nL lev) {C : String} {T : u_T} {N ci i : Nat} {y : MethodName} {bytes : ByteArray} {mL idx lv n : Nat} {ret : Option FieldType} (As st : List Value) {st0 : List Value} {r : Nat} {h1 : Hp} (hM : MR k lv y bytes mL ret (.ref (ka k i) :: As) h r h1) (hlv : lv + 1 ≤ lev) (hmL : mL ≤ 45) (hi : kd i = (0, ci)) (hc : vwCl[ci]? = some (C, T, N)) (m1 : Cond.methodLink own idx y ∈ xtb) (m2 : Cond.instanceMethod y ∈ xtb) (m3 : Cond.selects C y y ∈ xtb) (m4 : Cond.initialized C ∈ xtb) (m5 : Cond.code y bytes mL ret ∈ xtb) (hd : y.cls = C ∧ y.cls ≠ "java/lang/invoke/MethodHandle" ∧ y.cls ≠ "java/lang/invoke/VarHandle" ∧ (parseMethodDescriptor y.desc).map (fun d => d.parameters.length) = some n) (hst : st0 = As.reverse ++ .ref (ka k i) :: st) (hn : As.length = n) (hr : (st.map fun v => v.category).sum ≤ 8) (hdg : decode cc pc = .ok (.invokevirtual idx, 3)) (kk : Wz k d h1 (pc + 3) ls (.ref (ka k r) :: st)) : Wz k d h pc ls st0 := fun H locs la hP hS hl => by
  refine va_callr (a := ((.ref (ka k i) :: As) : List Value).toArray) (va_runV (As := As) (rest := st) ⟨o.1.1, o.1.2.1, o.1.2.2.1, o.1.2.2.2.1, o.1.2.2.2.2.1⟩ hM (cwV n o.1.2.2.2.2.1 (g_cons m1 rfl (g_cons m2 rfl (g_cons m3 rfl (g_cons m4 rfl (g_all m5))))) rfl rfl rfl hd ⟨by show lv + 1 ≤ _; have := o.1.2.2.2.2.2.2.2.1; omega, by show 8 + (mL + 11) + 64 * lv ≤ _; have := o.1.2.2.2.2.2.2.2.2.1; omega⟩) ⟨Wd.blind, va_recv o.1.2.2.2.2.2.1 hP hc (ws_get (o.lt hi (by decide)) |>.trans (by rw [ce_o hi])), fun U hU hW => ⟨rfl, by rw [hU]; exact hP, va_K.moved hW.alike o.1.2.2.2.2.2.1, fun w hw hn => nw_warm hn hW (nw_of hn (o.1.2.2.2.2.1 w hw))⟩⟩ rfl hn (hl.1.trans o.1.2.2.1) hst (lv_room hr) hdg ⟨o.1.2.2.2.2.2.2.2.2.2.1, o.1.2.2.2.2.2.2.2.2.2.2⟩) hS (fun q _ z => z) (fun q z => z) (fun u ra t H1 locs1 ht hvm hw hB _ _ hS1 => by
    obtain ⟨rfl, hB⟩ := hB
    exact kk H1 locs1 la (by rw [← ht]; exact hB) hS1 hl)
theorem x_callNI (o : Ok k d cc own nL lev) {C host : String} {T : u_T} {N ci i : Nat} {y : MethodName} {bytes : ByteArray} {mL idx lv n : Nat} {ret : Option FieldType} (As st : List Value) {st0 : List Value} {r : Int32} {h1 : Hp} (hM : MI k lv y bytes mL ret (.ref (ka k i) :: As) h r h1) (hlv : lv + 1 ≤ lev) (hmL : mL ≤ 45) (hi : kd i = (0, ci)) (hc : vwCl[ci]? = some (C, T, N)) (m1 : Cond.methodLinkNest own idx y host ∈ xtb) (m2 : Cond.instanceMethod y ∈ xtb) (m3 : Cond.selects C y y ∈ xtb) (m4 : Cond.initialized y.cls ∈ xtb) (m5 : Cond.code y bytes mL ret ∈ xtb) (hd : y.cls ≠ "java/lang/invoke/MethodHandle" ∧ y.cls ≠ "java/lang/invoke/VarHandle" ∧ (parseMethodDescriptor y.desc).map (fun d => d.parameters.length) = some n) (hst : st0 = As.reverse ++ .ref (ka k i) :: st) (hn : As.length = n) (hr : (st.map fun v => v.category).sum ≤ 8) (hdg : decode cc pc = .ok (.invokevirtual idx, 3)) (kk : Wz k d h1 (pc + 3) ls (.int r :: st)) : Wz k d h pc ls st0 := fun H locs la hP hS hl => by
  refine va_calli (a := ((.ref (ka k i) :: As) : List Value).toArray) (va_runVN (As := As) (rest := st) ⟨o.1.1, o.1.2.1, o.1.2.2.1, o.1.2.2.2.1, o.1.2.2.2.2.1⟩ hM ⟨va_cnB n o.1.2.2.2.2.1 (g_all m5) rfl rfl rfl (va_Nw.of rfl (o.1.2.2.2.2.1 _ m1)) (o.1.2.2.2.2.1 _ m4) hd ⟨by show lv + 1 ≤ _; have := o.1.2.2.2.2.2.2.2.1; omega, by show 8 + (mL + 11) + 64 * lv ≤ _; have := o.1.2.2.2.2.2.2.2.2.1; omega⟩, o.1.2.2.2.2.1 _ m2, o.1.2.2.2.2.1 _ m3⟩ ⟨Wd.blind, va_recv o.1.2.2.2.2.2.1 hP hc (ws_get (o.lt hi (by decide)) |>.trans (by rw [ce_o hi])), fun U hU hW => ⟨rfl, by rw [hU]; exact hP, va_K.moved hW.alike o.1.2.2.2.2.2.1, fun w hw hn => nw_warm hn hW (nw_of hn (o.1.2.2.2.2.1 w hw))⟩⟩ rfl hn (hl.1.trans o.1.2.2.1) hst (lv_room hr) hdg ⟨o.1.2.2.2.2.2.2.2.2.2.1, o.1.2.2.2.2.2.2.2.2.2.2⟩) hS (fun q _ z => z) (fun q z => z) (fun r9 u t H1 locs1 ht hvm hw hB _ _ hS1 => by
    subst hw
    exact kk H1 locs1 la (by rw [← ht]; exact hB) hS1 hl)
theorem x_callNV (o : Ok k d cc own nL lev) {C host : String} {T : u_T} {N ci i : Nat} {y : MethodName} {bytes : ByteArray} {mL idx lv n : Nat}  (As st : List Value) {st0 : List Value}  {h1 : Hp} (hM : MV k lv y bytes mL (.ref (ka k i) :: As) h h1) (hlv : lv + 1 ≤ lev) (hmL : mL ≤ 45) (hi : kd i = (0, ci)) (hc : vwCl[ci]? = some (C, T, N)) (m1 : Cond.methodLinkNest own idx y host ∈ xtb) (m2 : Cond.instanceMethod y ∈ xtb) (m3 : Cond.selects C y y ∈ xtb) (m4 : Cond.initialized y.cls ∈ xtb) (m5 : Cond.code y bytes mL none ∈ xtb) (hd : y.cls ≠ "java/lang/invoke/MethodHandle" ∧ y.cls ≠ "java/lang/invoke/VarHandle" ∧ (parseMethodDescriptor y.desc).map (fun d => d.parameters.length) = some n) (hst : st0 = As.reverse ++ .ref (ka k i) :: st) (hn : As.length = n) (hr : (st.map fun v => v.category).sum ≤ 8) (hdg : decode cc pc = .ok (.invokevirtual idx, 3)) (kk : Wz k d h1 (pc + 3) ls st) : Wz k d h pc ls st0 := fun H locs la hP hS hl => by
  refine va_callv (a := ((.ref (ka k i) :: As) : List Value).toArray) (va_runVN (As := As) (rest := st) ⟨o.1.1, o.1.2.1, o.1.2.2.1, o.1.2.2.2.1, o.1.2.2.2.2.1⟩ hM ⟨va_cnB n o.1.2.2.2.2.1 (g_all m5) rfl rfl rfl (va_Nw.of rfl (o.1.2.2.2.2.1 _ m1)) (o.1.2.2.2.2.1 _ m4) hd ⟨by show lv + 1 ≤ _; have := o.1.2.2.2.2.2.2.2.1; omega, by show 8 + (mL + 11) + 64 * lv ≤ _; have := o.1.2.2.2.2.2.2.2.2.1; omega⟩, o.1.2.2.2.2.1 _ m2, o.1.2.2.2.2.1 _ m3⟩ ⟨Wd.blind, va_recv o.1.2.2.2.2.2.1 hP hc (ws_get (o.lt hi (by decide)) |>.trans (by rw [ce_o hi])), fun U hU hW => ⟨rfl, by rw [hU]; exact hP, va_K.moved hW.alike o.1.2.2.2.2.2.1, fun w hw hn => nw_warm hn hW (nw_of hn (o.1.2.2.2.2.1 w hw))⟩⟩ rfl hn (hl.1.trans o.1.2.2.1) hst (lv_room hr) hdg ⟨o.1.2.2.2.2.2.2.2.2.2.1, o.1.2.2.2.2.2.2.2.2.2.2⟩) hS (fun q _ z => z) (fun q z => z) (fun u t H1 locs1 ht hvm hw hB _ _ hS1 => kk H1 locs1 la (by rw [← ht]; exact hB) hS1 hl)
theorem x_callNR (o : Ok k d cc own nL lev) {C host : String} {T : u_T} {N ci i : Nat} {y : MethodName} {bytes : ByteArray} {mL idx lv n : Nat} {ret : Option FieldType} (As st : List Value) {st0 : List Value} {r : Nat} {h1 : Hp} (hM : MR k lv y bytes mL ret (.ref (ka k i) :: As) h r h1) (hlv : lv + 1 ≤ lev) (hmL : mL ≤ 45) (hi : kd i = (0, ci)) (hc : vwCl[ci]? = some (C, T, N)) (m1 : Cond.methodLinkNest own idx y host ∈ xtb) (m2 : Cond.instanceMethod y ∈ xtb) (m3 : Cond.selects C y y ∈ xtb) (m4 : Cond.initialized y.cls ∈ xtb) (m5 : Cond.code y bytes mL ret ∈ xtb) (hd : y.cls ≠ "java/lang/invoke/MethodHandle" ∧ y.cls ≠ "java/lang/invoke/VarHandle" ∧ (parseMethodDescriptor y.desc).map (fun d => d.parameters.length) = some n) (hst : st0 = As.reverse ++ .ref (ka k i) :: st) (hn : As.length = n) (hr : (st.map fun v => v.category).sum ≤ 8) (hdg : decode cc pc = .ok (.invokevirtual idx, 3)) (kk : Wz k d h1 (pc + 3) ls (.ref (ka k r) :: st)) : Wz k d h pc ls st0 := fun H locs la hP hS hl => by
  refine va_callr (a := ((.ref (ka k i) :: As) : List Value).toArray) (va_runVN (As := As) (rest := st) ⟨o.1.1, o.1.2.1, o.1.2.2.1, o.1.2.2.2.1, o.1.2.2.2.2.1⟩ hM ⟨va_cnB n o.1.2.2.2.2.1 (g_all m5) rfl rfl rfl (va_Nw.of rfl (o.1.2.2.2.2.1 _ m1)) (o.1.2.2.2.2.1 _ m4) hd ⟨by show lv + 1 ≤ _; have := o.1.2.2.2.2.2.2.2.1; omega, by show 8 + (mL + 11) + 64 * lv ≤ _; have := o.1.2.2.2.2.2.2.2.2.1; omega⟩, o.1.2.2.2.2.1 _ m2, o.1.2.2.2.2.1 _ m3⟩ ⟨Wd.blind, va_recv o.1.2.2.2.2.2.1 hP hc (ws_get (o.lt hi (by decide)) |>.trans (by rw [ce_o hi])), fun U hU hW => ⟨rfl, by rw [hU]; exact hP, va_K.moved hW.alike o.1.2.2.2.2.2.1, fun w hw hn => nw_warm hn hW (nw_of hn (o.1.2.2.2.2.1 w hw))⟩⟩ rfl hn (hl.1.trans o.1.2.2.1) hst (lv_room hr) hdg ⟨o.1.2.2.2.2.2.2.2.2.2.1, o.1.2.2.2.2.2.2.2.2.2.2⟩) hS (fun q _ z => z) (fun q z => z) (fun u ra t H1 locs1 ht hvm hw hB _ _ hS1 => by
    obtain ⟨rfl, hB⟩ := hB
    exact kk H1 locs1 la (by rw [← ht]; exact hB) hS1 hl)
theorem x_callSI (o : Ok k d cc own nL lev)  {y : MethodName} {bytes : ByteArray} {mL idx lv n : Nat} {ret : Option FieldType} (As st : List Value) {st0 : List Value} {r : Int32} {h1 : Hp} (hM : MI k lv y bytes mL ret As h r h1) (hlv : lv + 1 ≤ lev) (hmL : mL ≤ 45) (m1 : Cond.methodLink own idx y ∈ xtb) (m2 : Cond.static y ∈ xtb) (m4 : Cond.initialized y.cls ∈ xtb) (m5 : Cond.code y bytes mL ret ∈ xtb) (hd : y.cls ≠ "java/lang/invoke/MethodHandle" ∧ y.cls ≠ "java/lang/invoke/VarHandle" ∧ (parseMethodDescriptor y.desc).map (fun d => d.parameters.length) = some n) (hst : st0 = As.reverse ++ st) (hn : As.length = n) (hr : (st.map fun v => v.category).sum ≤ 8) (hdg : decode cc pc = .ok (.invokestatic idx, 3)) (kk : Wz k d h1 (pc + 3) ls (.int r :: st)) : Wz k d h pc ls st0 := fun H locs la hP hS hl => by
  refine va_calli (a := (As : List Value).toArray) (va_runS (As := As) (rest := st) ⟨o.1.1, o.1.2.1, o.1.2.2.1, o.1.2.2.2.1, o.1.2.2.2.2.1⟩ hM ⟨callB_of n o.1.2.2.2.2.1 (g_all m5) rfl rfl rfl (o.1.2.2.2.2.1 _ m4) (o.1.2.2.2.2.1 _ m1) hd ⟨by show lv + 1 ≤ _; have := o.1.2.2.2.2.2.2.2.1; omega, by show 8 + (mL + 11) + 64 * lv ≤ _; have := o.1.2.2.2.2.2.2.2.2.1; omega⟩, o.1.2.2.2.2.1 _ m2⟩ ⟨Wd.blind, fun U hU hW => ⟨rfl, by rw [hU]; exact hP, va_K.moved hW.alike o.1.2.2.2.2.2.1, fun w hw hn => nw_warm hn hW (nw_of hn (o.1.2.2.2.2.1 w hw))⟩⟩ rfl hn (hl.1.trans o.1.2.2.1) hst (lv_room hr) hdg ⟨o.1.2.2.2.2.2.2.2.2.2.1, o.1.2.2.2.2.2.2.2.2.2.2⟩) hS (fun q _ z => z) (fun q z => z) (fun r9 u t H1 locs1 ht hvm hw hB _ _ hS1 => by
    subst hw
    exact kk H1 locs1 la (by rw [← ht]; exact hB) hS1 hl)
theorem x_callSV (o : Ok k d cc own nL lev)  {y : MethodName} {bytes : ByteArray} {mL idx lv n : Nat}  (As st : List Value) {st0 : List Value}  {h1 : Hp} (hM : MV k lv y bytes mL As h h1) (hlv : lv + 1 ≤ lev) (hmL : mL ≤ 45) (m1 : Cond.methodLink own idx y ∈ xtb) (m2 : Cond.static y ∈ xtb) (m4 : Cond.initialized y.cls ∈ xtb) (m5 : Cond.code y bytes mL none ∈ xtb) (hd : y.cls ≠ "java/lang/invoke/MethodHandle" ∧ y.cls ≠ "java/lang/invoke/VarHandle" ∧ (parseMethodDescriptor y.desc).map (fun d => d.parameters.length) = some n) (hst : st0 = As.reverse ++ st) (hn : As.length = n) (hr : (st.map fun v => v.category).sum ≤ 8) (hdg : decode cc pc = .ok (.invokestatic idx, 3)) (kk : Wz k d h1 (pc + 3) ls st) : Wz k d h pc ls st0 := fun H locs la hP hS hl => by
  refine va_callv (a := (As : List Value).toArray) (va_runS (As := As) (rest := st) ⟨o.1.1, o.1.2.1, o.1.2.2.1, o.1.2.2.2.1, o.1.2.2.2.2.1⟩ hM ⟨callB_of n o.1.2.2.2.2.1 (g_all m5) rfl rfl rfl (o.1.2.2.2.2.1 _ m4) (o.1.2.2.2.2.1 _ m1) hd ⟨by show lv + 1 ≤ _; have := o.1.2.2.2.2.2.2.2.1; omega, by show 8 + (mL + 11) + 64 * lv ≤ _; have := o.1.2.2.2.2.2.2.2.2.1; omega⟩, o.1.2.2.2.2.1 _ m2⟩ ⟨Wd.blind, fun U hU hW => ⟨rfl, by rw [hU]; exact hP, va_K.moved hW.alike o.1.2.2.2.2.2.1, fun w hw hn => nw_warm hn hW (nw_of hn (o.1.2.2.2.2.1 w hw))⟩⟩ rfl hn (hl.1.trans o.1.2.2.1) hst (lv_room hr) hdg ⟨o.1.2.2.2.2.2.2.2.2.2.1, o.1.2.2.2.2.2.2.2.2.2.2⟩) hS (fun q _ z => z) (fun q z => z) (fun u t H1 locs1 ht hvm hw hB _ _ hS1 => kk H1 locs1 la (by rw [← ht]; exact hB) hS1 hl)
theorem x_callSR (o : Ok k d cc own nL lev)  {y : MethodName} {bytes : ByteArray} {mL idx lv n : Nat} {ret : Option FieldType} (As st : List Value) {st0 : List Value} {r : Nat} {h1 : Hp} (hM : MR k lv y bytes mL ret As h r h1) (hlv : lv + 1 ≤ lev) (hmL : mL ≤ 45) (m1 : Cond.methodLink own idx y ∈ xtb) (m2 : Cond.static y ∈ xtb) (m4 : Cond.initialized y.cls ∈ xtb) (m5 : Cond.code y bytes mL ret ∈ xtb) (hd : y.cls ≠ "java/lang/invoke/MethodHandle" ∧ y.cls ≠ "java/lang/invoke/VarHandle" ∧ (parseMethodDescriptor y.desc).map (fun d => d.parameters.length) = some n) (hst : st0 = As.reverse ++ st) (hn : As.length = n) (hr : (st.map fun v => v.category).sum ≤ 8) (hdg : decode cc pc = .ok (.invokestatic idx, 3)) (kk : Wz k d h1 (pc + 3) ls (.ref (ka k r) :: st)) : Wz k d h pc ls st0 := fun H locs la hP hS hl => by
  refine va_callr (a := (As : List Value).toArray) (va_runS (As := As) (rest := st) ⟨o.1.1, o.1.2.1, o.1.2.2.1, o.1.2.2.2.1, o.1.2.2.2.2.1⟩ hM ⟨callB_of n o.1.2.2.2.2.1 (g_all m5) rfl rfl rfl (o.1.2.2.2.2.1 _ m4) (o.1.2.2.2.2.1 _ m1) hd ⟨by show lv + 1 ≤ _; have := o.1.2.2.2.2.2.2.2.1; omega, by show 8 + (mL + 11) + 64 * lv ≤ _; have := o.1.2.2.2.2.2.2.2.2.1; omega⟩, o.1.2.2.2.2.1 _ m2⟩ ⟨Wd.blind, fun U hU hW => ⟨rfl, by rw [hU]; exact hP, va_K.moved hW.alike o.1.2.2.2.2.2.1, fun w hw hn => nw_warm hn hW (nw_of hn (o.1.2.2.2.2.1 w hw))⟩⟩ rfl hn (hl.1.trans o.1.2.2.1) hst (lv_room hr) hdg ⟨o.1.2.2.2.2.2.2.2.2.2.1, o.1.2.2.2.2.2.2.2.2.2.2⟩) hS (fun q _ z => z) (fun q z => z) (fun u ra t H1 locs1 ht hvm hw hB _ _ hS1 => by
    obtain ⟨rfl, hB⟩ := hB
    exact kk H1 locs1 la (by rw [← ht]; exact hB) hS1 hl)
theorem x_callTI (o : Ok k d cc own nL lev) {host : String} {y : MethodName} {bytes : ByteArray} {mL idx lv n : Nat} {ret : Option FieldType} (As st : List Value) {st0 : List Value} {r : Int32} {h1 : Hp} (hM : MI k lv y bytes mL ret As h r h1) (hlv : lv + 1 ≤ lev) (hmL : mL ≤ 45) (m1 : Cond.methodLinkNest own idx y host ∈ xtb) (m2 : Cond.static y ∈ xtb) (m4 : Cond.initialized y.cls ∈ xtb) (m5 : Cond.code y bytes mL ret ∈ xtb) (hd : y.cls ≠ "java/lang/invoke/MethodHandle" ∧ y.cls ≠ "java/lang/invoke/VarHandle" ∧ (parseMethodDescriptor y.desc).map (fun d => d.parameters.length) = some n) (hst : st0 = As.reverse ++ st) (hn : As.length = n) (hr : (st.map fun v => v.category).sum ≤ 8) (hdg : decode cc pc = .ok (.invokestatic idx, 3)) (kk : Wz k d h1 (pc + 3) ls (.int r :: st)) : Wz k d h pc ls st0 := fun H locs la hP hS hl => by
  refine va_calli (a := (As : List Value).toArray) (va_runSN (As := As) (rest := st) ⟨o.1.1, o.1.2.1, o.1.2.2.1, o.1.2.2.2.1, o.1.2.2.2.2.1⟩ hM ⟨va_cnB n o.1.2.2.2.2.1 (g_all m5) rfl rfl rfl (va_Nw.of rfl (o.1.2.2.2.2.1 _ m1)) (o.1.2.2.2.2.1 _ m4) hd ⟨by show lv + 1 ≤ _; have := o.1.2.2.2.2.2.2.2.1; omega, by show 8 + (mL + 11) + 64 * lv ≤ _; have := o.1.2.2.2.2.2.2.2.2.1; omega⟩, o.1.2.2.2.2.1 _ m2, trivial⟩ ⟨Wd.blind, fun U hU hW => ⟨rfl, by rw [hU]; exact hP, va_K.moved hW.alike o.1.2.2.2.2.2.1, fun w hw hn => nw_warm hn hW (nw_of hn (o.1.2.2.2.2.1 w hw))⟩⟩ rfl hn (hl.1.trans o.1.2.2.1) hst (lv_room hr) hdg ⟨o.1.2.2.2.2.2.2.2.2.2.1, o.1.2.2.2.2.2.2.2.2.2.2⟩) hS (fun q _ z => z) (fun q z => z) (fun r9 u t H1 locs1 ht hvm hw hB _ _ hS1 => by
    subst hw
    exact kk H1 locs1 la (by rw [← ht]; exact hB) hS1 hl)
theorem x_callTV (o : Ok k d cc own nL lev) {host : String} {y : MethodName} {bytes : ByteArray} {mL idx lv n : Nat}  (As st : List Value) {st0 : List Value}  {h1 : Hp} (hM : MV k lv y bytes mL As h h1) (hlv : lv + 1 ≤ lev) (hmL : mL ≤ 45) (m1 : Cond.methodLinkNest own idx y host ∈ xtb) (m2 : Cond.static y ∈ xtb) (m4 : Cond.initialized y.cls ∈ xtb) (m5 : Cond.code y bytes mL none ∈ xtb) (hd : y.cls ≠ "java/lang/invoke/MethodHandle" ∧ y.cls ≠ "java/lang/invoke/VarHandle" ∧ (parseMethodDescriptor y.desc).map (fun d => d.parameters.length) = some n) (hst : st0 = As.reverse ++ st) (hn : As.length = n) (hr : (st.map fun v => v.category).sum ≤ 8) (hdg : decode cc pc = .ok (.invokestatic idx, 3)) (kk : Wz k d h1 (pc + 3) ls st) : Wz k d h pc ls st0 := fun H locs la hP hS hl => by
  refine va_callv (a := (As : List Value).toArray) (va_runSN (As := As) (rest := st) ⟨o.1.1, o.1.2.1, o.1.2.2.1, o.1.2.2.2.1, o.1.2.2.2.2.1⟩ hM ⟨va_cnB n o.1.2.2.2.2.1 (g_all m5) rfl rfl rfl (va_Nw.of rfl (o.1.2.2.2.2.1 _ m1)) (o.1.2.2.2.2.1 _ m4) hd ⟨by show lv + 1 ≤ _; have := o.1.2.2.2.2.2.2.2.1; omega, by show 8 + (mL + 11) + 64 * lv ≤ _; have := o.1.2.2.2.2.2.2.2.2.1; omega⟩, o.1.2.2.2.2.1 _ m2, trivial⟩ ⟨Wd.blind, fun U hU hW => ⟨rfl, by rw [hU]; exact hP, va_K.moved hW.alike o.1.2.2.2.2.2.1, fun w hw hn => nw_warm hn hW (nw_of hn (o.1.2.2.2.2.1 w hw))⟩⟩ rfl hn (hl.1.trans o.1.2.2.1) hst (lv_room hr) hdg ⟨o.1.2.2.2.2.2.2.2.2.2.1, o.1.2.2.2.2.2.2.2.2.2.2⟩) hS (fun q _ z => z) (fun q z => z) (fun u t H1 locs1 ht hvm hw hB _ _ hS1 => kk H1 locs1 la (by rw [← ht]; exact hB) hS1 hl)
theorem x_callTR (o : Ok k d cc own nL lev) {host : String} {y : MethodName} {bytes : ByteArray} {mL idx lv n : Nat} {ret : Option FieldType} (As st : List Value) {st0 : List Value} {r : Nat} {h1 : Hp} (hM : MR k lv y bytes mL ret As h r h1) (hlv : lv + 1 ≤ lev) (hmL : mL ≤ 45) (m1 : Cond.methodLinkNest own idx y host ∈ xtb) (m2 : Cond.static y ∈ xtb) (m4 : Cond.initialized y.cls ∈ xtb) (m5 : Cond.code y bytes mL ret ∈ xtb) (hd : y.cls ≠ "java/lang/invoke/MethodHandle" ∧ y.cls ≠ "java/lang/invoke/VarHandle" ∧ (parseMethodDescriptor y.desc).map (fun d => d.parameters.length) = some n) (hst : st0 = As.reverse ++ st) (hn : As.length = n) (hr : (st.map fun v => v.category).sum ≤ 8) (hdg : decode cc pc = .ok (.invokestatic idx, 3)) (kk : Wz k d h1 (pc + 3) ls (.ref (ka k r) :: st)) : Wz k d h pc ls st0 := fun H locs la hP hS hl => by
  refine va_callr (a := (As : List Value).toArray) (va_runSN (As := As) (rest := st) ⟨o.1.1, o.1.2.1, o.1.2.2.1, o.1.2.2.2.1, o.1.2.2.2.2.1⟩ hM ⟨va_cnB n o.1.2.2.2.2.1 (g_all m5) rfl rfl rfl (va_Nw.of rfl (o.1.2.2.2.2.1 _ m1)) (o.1.2.2.2.2.1 _ m4) hd ⟨by show lv + 1 ≤ _; have := o.1.2.2.2.2.2.2.2.1; omega, by show 8 + (mL + 11) + 64 * lv ≤ _; have := o.1.2.2.2.2.2.2.2.2.1; omega⟩, o.1.2.2.2.2.1 _ m2, trivial⟩ ⟨Wd.blind, fun U hU hW => ⟨rfl, by rw [hU]; exact hP, va_K.moved hW.alike o.1.2.2.2.2.2.1, fun w hw hn => nw_warm hn hW (nw_of hn (o.1.2.2.2.2.1 w hw))⟩⟩ rfl hn (hl.1.trans o.1.2.2.1) hst (lv_room hr) hdg ⟨o.1.2.2.2.2.2.2.2.2.2.1, o.1.2.2.2.2.2.2.2.2.2.2⟩) hS (fun q _ z => z) (fun q z => z) (fun u ra t H1 locs1 ht hvm hw hB _ _ hS1 => by
    obtain ⟨rfl, hB⟩ := hB
    exact kk H1 locs1 la (by rw [← ht]; exact hB) hS1 hl)
end calls
/-- the ends of a method -/
def RI (k : Kst) (d : Kdy) (cc : ByteArray) (r : Int32) (h : Hp) : Prop := ∀ (pc : Nat) (ls : List (Nat × Value)), decode cc pc = .ok (.ireturn, 1) → Wz k d h pc ls [.int r]
def RZ (k : Kst) (d : Kdy) (cc : ByteArray) (r : Int32) (h : Hp) : Prop := (r = 0 ∨ r = 1) → RI k d cc r h
def RV (k : Kst) (d : Kdy) (cc : ByteArray) (h : Hp) : Prop := ∀ (pc : Nat) (ls : List (Nat × Value)), decode cc pc = .ok (.return_, 1) → Wz k d h pc ls []
def RR (k : Kst) (d : Kdy) (cc : ByteArray) (r : Nat) (h : Hp) : Prop := ∀ (pc : Nat) (ls : List (Nat × Value)), decode cc pc = .ok (.areturn, 1) → Wz k d h pc ls [.ref (ka k r)]
theorem mI {k : Kst} (hj : Dj k) (hn : kn k = kdl.length) {y : MethodName} {cc : ByteArray} {nL lev : Nat} {as : List Value} {h h1 : Hp} {r : Int32} (hy : plainName y.cls = true) (hlen : (lg_sl as).length ≤ nL) (S : ∀ d, Ok k d cc y.cls nL lev → RI k d cc r h1 → Wz k d h 0 (lv_args 0 as) []) : MI k lev y cc nL (some .int) as h r h1 := by
  refine Met.ofW (cc := cc) (maxL := nL) (ret := (some .int)) hy rfl ?_
  intro p e s m args below meth c s₁ B hml hv
  obtain ⟨rfl, hP, hK, hNw⟩ := hv
  have hts := atoms_spec (ws := ca y cc nL (some .int)) B.pre
  have hlocks := B.notSynchronized
  have hr := B.returns
  have o : Ok k ((p, e, (headSpec (ca y cc nL (some .int)) (rm lev)).room, s, m, as.toArray, below, meth, c, 0, 0, MQ below (va_Qi (fun r9 (_ : Unit) => r9 = r) (fun _ => Wq k h1) (kA k)) as.toArray s 0 0 (kA k)) : Kdy) cc y.cls nL lev := ⟨⟨B.exec, B.bytes, hml, findClass_of_methodNamed B.named, tb_all (fun w hw => hts w (List.mem_cons_of_mem _ hw)) hNw, hK, hj, Nat.le_refl _, Nat.le_refl _, Nat.zero_le _, Nat.zero_le _⟩, hn⟩
  have hl := lv_entry as (n := nL) hlen
  have K := S _ o (fun pc ls hdg H locs la hP1 hS1 hl1 => W.iret (v := r) o.1.1 o.1.2.1 hr (fun t ht hW => ⟨⟨r, (), rfl, rfl, by show va_P _ _ _ t.heap; rw [ht]; exact hP1⟩, hS1.F ht⟩) hS1.2.2 hdg hlocks) s.heap [] _ hP va_S.rf (by show lv_has _ c.maxLocals _; rw [hml]; exact hl)
  rw [lg_entry_eq]
  exact K
theorem mZ {k : Kst} (hj : Dj k) (hn : kn k = kdl.length) {y : MethodName} {cc : ByteArray} {nL lev : Nat} {as : List Value} {h h1 : Hp} {r : Int32} (hy : plainName y.cls = true) (hlen : (lg_sl as).length ≤ nL) (S : ∀ d, Ok k d cc y.cls nL lev → RZ k d cc r h1 → Wz k d h 0 (lv_args 0 as) []) : MI k lev y cc nL (some .boolean) as h r h1 := by
  refine Met.ofW (cc := cc) (maxL := nL) (ret := (some .boolean)) hy rfl ?_
  intro p e s m args below meth c s₁ B hml hv
  obtain ⟨rfl, hP, hK, hNw⟩ := hv
  have hts := atoms_spec (ws := ca y cc nL (some .boolean)) B.pre
  have hlocks := B.notSynchronized
  have hr := B.returns
  have o : Ok k ((p, e, (headSpec (ca y cc nL (some .boolean)) (rm lev)).room, s, m, as.toArray, below, meth, c, 0, 0, MQ below (va_Qi (fun r9 (_ : Unit) => r9 = r) (fun _ => Wq k h1) (kA k)) as.toArray s 0 0 (kA k)) : Kdy) cc y.cls nL lev := ⟨⟨B.exec, B.bytes, hml, findClass_of_methodNamed B.named, tb_all (fun w hw => hts w (List.mem_cons_of_mem _ hw)) hNw, hK, hj, Nat.le_refl _, Nat.le_refl _, Nat.zero_le _, Nat.zero_le _⟩, hn⟩
  have hl := lv_entry as (n := nL) hlen
  have K := S _ o (fun h01 pc ls hdg H locs la hP1 hS1 hl1 => W.zret (v := r) o.1.1 o.1.2.1 hr (by rcases h01 with rfl | rfl <;> rfl) (fun t ht hW => ⟨⟨r, (), rfl, rfl, by show va_P _ _ _ t.heap; rw [ht]; exact hP1⟩, hS1.F ht⟩) hS1.2.2 hdg hlocks) s.heap [] _ hP va_S.rf (by show lv_has _ c.maxLocals _; rw [hml]; exact hl)
  rw [lg_entry_eq]
  exact K
theorem mV {k : Kst} (hj : Dj k) (hn : kn k = kdl.length) {y : MethodName} {cc : ByteArray} {nL lev : Nat} {as : List Value} {h h1 : Hp}  (hy : plainName y.cls = true) (hlen : (lg_sl as).length ≤ nL) (S : ∀ d, Ok k d cc y.cls nL lev → RV k d cc h1 → Wz k d h 0 (lv_args 0 as) []) : MV k lev y cc nL as h h1 := by
  refine Met.ofW (cc := cc) (maxL := nL) (ret := none) hy rfl ?_
  intro p e s m args below meth c s₁ B hml hv
  obtain ⟨rfl, hP, hK, hNw⟩ := hv
  have hts := atoms_spec (ws := ca y cc nL none) B.pre
  have hlocks := B.notSynchronized
  have hr := B.returns
  have o : Ok k ((p, e, (headSpec (ca y cc nL none) (rm lev)).room, s, m, as.toArray, below, meth, c, 0, 0, MQ below (va_Qv (fun (_ : Unit) => True) (fun _ => Wq k h1) (kA k)) as.toArray s 0 0 (kA k)) : Kdy) cc y.cls nL lev := ⟨⟨B.exec, B.bytes, hml, findClass_of_methodNamed B.named, tb_all (fun w hw => hts w (List.mem_cons_of_mem _ hw)) hNw, hK, hj, Nat.le_refl _, Nat.le_refl _, Nat.zero_le _, Nat.zero_le _⟩, hn⟩
  have hl := lv_entry as (n := nL) hlen
  have K := S _ o (fun pc ls hdg H locs la hP1 hS1 hl1 => W.vret o.1.1 o.1.2.1 hr (fun t ht hW => ⟨⟨(), rfl, trivial, by show va_P _ _ _ t.heap; rw [ht]; exact hP1⟩, hS1.F ht⟩) hS1.2.2 hdg hlocks) s.heap [] _ hP va_S.rf (by show lv_has _ c.maxLocals _; rw [hml]; exact hl)
  rw [lg_entry_eq]
  exact K
theorem mR {k : Kst} (hj : Dj k) (hn : kn k = kdl.length) {y : MethodName} {cc : ByteArray} {nL lev : Nat} {as : List Value} {h h1 : Hp} {r : Nat} {rc : String} (hy : plainName y.cls = true) (hlen : (lg_sl as).length ≤ nL) (S : ∀ d, Ok k d cc y.cls nL lev → RR k d cc r h1 → Wz k d h 0 (lv_args 0 as) []) : MR k lev y cc nL (some (.object rc)) as h r h1 := by
  refine Met.ofW (cc := cc) (maxL := nL) (ret := (some (.object rc))) hy rfl ?_
  intro p e s m args below meth c s₁ B hml hv
  obtain ⟨rfl, hP, hK, hNw⟩ := hv
  have hts := atoms_spec (ws := ca y cc nL (some (.object rc))) B.pre
  have hlocks := B.notSynchronized
  have hr := B.returns
  have o : Ok k ((p, e, (headSpec (ca y cc nL (some (.object rc))) (rm lev)).room, s, m, as.toArray, below, meth, c, 0, 0, MQ below (va_Qr (fun (_ : Unit) => True) (fun _ a t => a = ka k r ∧ Wq k h1 t) (kA k)) as.toArray s 0 0 (kA k)) : Kdy) cc y.cls nL lev := ⟨⟨B.exec, B.bytes, hml, findClass_of_methodNamed B.named, tb_all (fun w hw => hts w (List.mem_cons_of_mem _ hw)) hNw, hK, hj, Nat.le_refl _, Nat.le_refl _, Nat.zero_le _, Nat.zero_le _⟩, hn⟩
  have hl := lv_entry as (n := nL) hlen
  have K := S _ o (fun pc ls hdg H locs la hP1 hS1 hl1 => W.aret (v := .ref (ka k r)) o.1.1 o.1.2.1 hr (Or.inl ⟨_, rfl⟩) (Or.inr ⟨_, rfl⟩) (fun t ht hW => ⟨⟨(), ka k r, rfl, trivial, rfl, by show va_P _ _ _ t.heap; rw [ht]; exact hP1⟩, hS1.F ht⟩) hS1.2.2 hdg hlocks) s.heap [] _ hP va_S.rf (by show lv_has _ c.maxLocals _; rw [hml]; exact hl)
  rw [lg_entry_eq]
  exact K
abbrev ix (i : Int32) : Nat := i.toInt.toNat
abbrev inb (i : Int32) (n : Nat) : Prop := 0 ≤ i.toInt ∧ i.toInt < n
def imin (x y : Int32) : Int32 := if y < x then y else x
def imax (x y : Int32) : Int32 := if x < y then y else x
def iabs (x : Int32) : Int32 := if 0 ≤ x then x else 0 - x
def bd {α β : Type} (a : α) (f : α → β) : β := f a
theorem bd_ex {α β : Type} {a : α} {f : α → β} {r : β} (h : bd a f = r) : ∃ x, x = a ∧ f x = r := ⟨a, rfl, h⟩
def bq {α β γ : Type} (x : Option (α × β)) (f : α → β → Option γ) : Option γ := x.bind (fun p => f p.1 p.2)
theorem bq_ex {α β γ : Type} {x : Option (α × β)} {f : α → β → Option γ} {r : γ} (h : bq x f = some r) : ∃ a b, x = some (a, b) ∧ f a b = some r := by
  obtain ⟨⟨a, b⟩, h1, h2⟩ := Option.bind_eq_some_iff.mp h
  exact ⟨a, b, h1, h2⟩
theorem ob_ex {α γ : Type} {x : Option α} {f : α → Option γ} {r : γ} (h : x.bind f = some r) : ∃ a, x = some a ∧ f a = some r := Option.bind_eq_some_iff.mp h
theorem gd_ex {α : Type} {c : Prop} {i : Decidable c} {x : Option α} {r : α} (h : (if c then x else none) = some r) : c ∧ x = some r := by
  by_cases hc : c
  · rw [if_pos hc] at h
    exact ⟨hc, h⟩
  · rw [if_neg hc] at h
    cases h
def gq {α : Type} (c : Prop) [i : Decidable c] (x : Option α) : Option α := if c then x else none
theorem gq_ex {α : Type} {c : Prop} {i : Decidable c} {x : Option α} {r : α} (h : gq c x = some r) : c ∧ x = some r := gd_ex h
def iush (x y : Int32) : Int32 := (x.toUInt32 >>> (y.toUInt32 &&& Int32.toUInt32 31)).toInt32
def irm (x y : Int32) : Int32 := x - x / y * y
def i2b (x : Int32) : Int32 := x.toInt8.toInt32
theorem up_2 {h h1 : Hp} {a j : Nat} {v : Int32} (e : h1 = up h a j v) : h1.2 = h.2 := by
  rw [e]
  rfl
theorem uc_2 {h h1 : Hp} {a b x y z : Nat} (e : h1 = uc h a b x y z) : h1.2 = h.2 := by
  rw [e]
  rfl
theorem p2 {h h1 : Hp} {a f j : Nat} (e : h1.2 = h.2) (q : h.2 a f = some j) : h1.2 a f = some j := by
  rw [e]
  exact q
section rows5
variable {k : Kst} {d : Kdy} {cc : ByteArray} {own : String} {nL lev : Nat} {h : Hp} {pc : Nat} {ls : List (Nat × Value)} {st : List Value}
theorem x_h {h1 h2 : Hp} (e : h1 = h2) (kk : Wz k d h1 pc ls st) : Wz k d h2 pc ls st := e ▸ kk
theorem x_top {x v : Int32} (e : v = x) (kk : Wz k d h pc ls (.int v :: st)) : Wz k d h pc ls (.int x :: st) := e ▸ kk
theorem x_irem (o : Ok k d cc own nL lev) {x y : Int32} (hdg : decode cc pc = .ok (.irem, 1)) (hne : ¬ y = 0) (kk : Wz k d h (pc + 1) ls (.int (irm x y) :: st)) : Wz k d h pc ls (.int y :: .int x :: st) := fun H locs la hP hS hl => lv_irem o.1.1 o.1.2.1 hdg hne (kk H locs la hP hS hl)
theorem x_tabi (o : Ok k d cc own nL lev) {dflt lo hi off : Int} {offs : Array Int} {len : Nat} {x v : Int32} (tgt : Nat) (hx : x = v) (h1 : ¬ v.toInt < lo) (h2 : ¬ hi < v.toInt) (ho : offs[(v.toInt - lo).toNat]? = some off) (ht : (pc : Int) + off = (tgt : Int)) (hdg : decode cc pc = .ok (.tableswitch dflt lo hi offs, len)) (kk : Wz k d h tgt ls st) : Wz k d h pc ls (.int x :: st) := fun H locs la hP hS hl => lv_tableIn o.1.1 o.1.2.1 hdg (by rw [hx]; exact h1) (by rw [hx]; exact h2) (by rw [hx]; exact ho) ht (kk H locs la hP hS hl)
theorem x_tabo (o : Ok k d cc own nL lev) {dflt lo hi : Int} {offs : Array Int} {len : Nat} {x : Int32} (tgt : Nat) (hx : x.toInt < lo ∨ hi < x.toInt) (ht : (pc : Int) + dflt = (tgt : Int)) (hdg : decode cc pc = .ok (.tableswitch dflt lo hi offs, len)) (kk : Wz k d h tgt ls st) : Wz k d h pc ls (.int x :: st) := fun H locs la hP hS hl => lv_tableOut o.1.1 o.1.2.1 hdg hx ht (kk H locs la hP hS hl)
theorem x_look (o : Ok k d cc own nL lev) {dflt off : Int} {ps : Array (Int × Int)} {len : Nat} {x : Int32} (tgt : Nat) (hp : (ps.toList.zip (ps.toList.drop 1)).all (fun (a, next) => a.1 < next.1) = true) (ho : Op.lookupswitch.offset ps.toList dflt x.toInt = off) (ht : (pc : Int) + off = (tgt : Int)) (hdg : decode cc pc = .ok (.lookupswitch dflt ps, len)) (kk : Wz k d h tgt ls st) : Wz k d h pc ls (.int x :: st) := fun H locs la hP hS hl => lv_lookup o.1.1 o.1.2.1 hdg hp ho ht (kk H locs la hP hS hl)
end rows5
