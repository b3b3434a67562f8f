/-! The judgement of the walks: a world of fixed shape whose cells stand at ids; its numbers are one function of id and place. -/
abbrev rcM : Type := Nat → Nat → Int32
abbrev rcH : Type := Nat → (Nat × List Nat) ⊕ (Nat × Nat)
abbrev rcY : Type := (Nat → ClassId) × (Nat → Nat) × va_G
/-- a number at one place -/
def rcu (v : rcM) (a k : Nat) (x : Int32) : rcM := fun b j => if b = a ∧ j = k then x else v b j
def rcb (x : Int32) : Int32 := if x = 0 then 0 else 1
def rcv (Y : rcY) (v : rcM) (id k kd : Nat) : Value := match kd with
  | 0 => .int (v id k)
  | 1 => .int (rcb (v id k))
  | j + 2 => .ref (Y.2.1 j)
def rcty (t : Nat) : FieldType := match t with
  | 0 => .int
  | 1 => .char
  | 2 => .object RX3
  | _ => .object RX0
def rca (Y : rcY) (v : rcM) (id t : Nat) : (Nat → Int32) ⊕ (Nat → Int64) ⊕ (Nat → UInt32) ⊕ (Nat → UInt64) ⊕ (Nat → Option Nat) := match t with
  | 0 => .inl (v id)
  | 1 => .inl (v id)
  | 2 => .inr (.inr (.inr (.inr (fun j => some (Y.2.1 (v id j).toNatClampNeg)))))
  | _ => .inr (.inr (.inr (.inr (fun j => some (Y.2.1 (j + (id + 1)))))))
def rce (sh : rcH) (Y : rcY) (v : rcM) (id : Nat) : va_E := match sh id with
  | .inl (ci, ks) => .inr (ci, ks.mapIdx (fun k kd => rcv Y v id k kd))
  | .inr (t, n) => .inl (Y.1 id, n, rca Y v id t)
def rcw (sh : rcH) (N : Nat) (Y : rcY) (v : rcM) : va_W := (List.range N).map (fun id => (Y.2.1 id, rce sh Y v id))
def rcW (sh : rcH) (N : Nat) (Y : rcY) (v : rcM) (H : Heap) : Prop := va_P Y.2.2 vwCl (rcw sh N Y v) H
def rcA (N : Nat) (Y : rcY) : Nat → Prop := fun q => ∃ id, id < N ∧ q = Y.2.1 id
/-- what stays of a system: its addresses are apart; its classes; its arrays' classes; the words of nest mates -/
def rcK (sh : rcH) (N : Nat) (Y : rcY) (U : State) : Prop :=
  (∀ i j, i < N → j < N → Y.2.1 i = Y.2.1 j → i = j) ∧ va_K Y.2.2 vwCl [] U ∧
  (∀ id t n, id < N → sh id = .inr (t, n) → ArrOfT U (Y.1 id) (rcty t) ∧ va_RA U (Y.1 id) (rcty t)) ∧ ∀ w ∈ lw_n, va_Nw w U
theorem rcw_at {sh : rcH} {N : Nat} {Y : rcY} {v : rcM} {id : Nat} (h : id < N) : (rcw sh N Y v)[id]? = some (Y.2.1 id, rce sh Y v id) := by
  simp [rcw, h]
theorem rcw_lt {sh : rcH} {N : Nat} {Y : rcY} {v : rcM} {id : Nat} {q : Nat × va_E} (h : (rcw sh N Y v)[id]? = some q) : id < N ∧ q = (Y.2.1 id, rce sh Y v id) := by
  by_cases hi : id < N
  · rw [rcw_at hi] at h
    exact ⟨hi, (Option.some.inj h).symm⟩
  · simp [rcw, hi] at h
theorem rcw_D {sh : rcH} {N : Nat} {Y : rcY} {v : rcM} (h : ∀ i j, i < N → j < N → Y.2.1 i = Y.2.1 j → i = j) : va_D (rcA N Y) (rcw sh N Y v) := by
  refine ⟨fun i j p q hp hq hpq => ?_, fun k q hk => ?_⟩
  · obtain ⟨h1, rfl⟩ := rcw_lt hp
    obtain ⟨h2, rfl⟩ := rcw_lt hq
    exact h i j h1 h2 hpq
  · obtain ⟨h1, rfl⟩ := rcw_lt hk
    exact ⟨k, h1, rfl⟩
theorem rcu_ne {v : rcM} {a k b : Nat} {x : Int32} (h : b ≠ a) : rcu v a k x b = v b := by
  funext j
  simp [rcu, h]
theorem rcu_self {v : rcM} {a k : Nat} {x : Int32} : rcu v a k x a k = x := by simp [rcu]
theorem rcu_k {v : rcM} {a k j : Nat} {x : Int32} (h : j ≠ k) : rcu v a k x a j = v a j := by simp [rcu, h]
theorem rcu_row {v : rcM} {a k : Nat} {x : Int32} : rcu v a k x a = upd (v a) k x := by
  funext j
  simp [rcu, upd]
theorem rce_ne {sh : rcH} {Y : rcY} {v v' : rcM} {id : Nat} (h : v' id = v id) : rce sh Y v' id = rce sh Y v id := by
  unfold rce
  cases sh id with
  | inl q =>
    obtain ⟨ci, ks⟩ := q
    have e : (fun (k kd : Nat) => rcv Y v' id k kd) = fun (k kd : Nat) => rcv Y v id k kd := by
      funext k kd
      match kd with
      | 0 => simp [rcv, h]
      | 1 => simp [rcv, h]
      | j + 2 => rfl
    show Sum.inr (ci, ks.mapIdx (fun k kd => rcv Y v' id k kd)) = Sum.inr (ci, ks.mapIdx (fun k kd => rcv Y v id k kd))
    rw [e]
  | inr q =>
    obtain ⟨t, n⟩ := q
    show Sum.inl (Y.1 id, n, rca Y v' id t) = Sum.inl (Y.1 id, n, rca Y v id t)
    have e : rca Y v' id t = rca Y v id t := by
      unfold rca
      rw [h]
    rw [e]
theorem rcw_set {sh : rcH} {N : Nat} {Y : rcY} {v v' : rcM} {id : Nat} {e : va_E} (hN : id < N) (he : e = rce sh Y v' id) (h : ∀ j, j ≠ id → v' j = v j) :
    (rcw sh N Y v).set id (Y.2.1 id, e) = rcw sh N Y v' := by
  subst he
  apply List.ext_getElem?
  intro i
  by_cases hi : i < N
  · by_cases hid : id = i
    · subst hid
      rw [rcw_at hi, List.getElem?_set_self (by simpa [rcw] using hi)]
    · rw [List.getElem?_set_ne hid, rcw_at hi, rcw_at hi, rce_ne (h i (fun q => hid q.symm))]
  · rw [List.getElem?_eq_none (by simp [rcw]; omega), List.getElem?_eq_none (by simp [rcw]; omega)]
theorem rcb_01 (x : Int32) : rcb x = 0 ∨ rcb x = 1 := by unfold rcb; split <;> simp
theorem rcb_b (x : Int32) : rcb (rcb x) = rcb x := by unfold rcb; split <;> simp_all
theorem rcb_of {x : Int32} (h : x = 0 ∨ x = 1) : rcb x = x := by rcases h with rfl | rfl <;> rfl
theorem rce_obj {sh : rcH} {Y : rcY} {v : rcM} {id ci : Nat} {ks : List Nat} (hs : sh id = .inl (ci, ks)) : rce sh Y v id = .inr (ci, ks.mapIdx (fun k kd => rcv Y v id k kd)) := by
  unfold rce
  rw [hs]
theorem rce_arr {sh : rcH} {Y : rcY} {v : rcM} {id t n : Nat} (hs : sh id = .inr (t, n)) : rce sh Y v id = .inl (Y.1 id, n, rca Y v id t) := by
  unfold rce
  rw [hs]
theorem rce_put {sh : rcH} {Y : rcY} {v : rcM} {id ci k kd : Nat} {ks : List Nat} {x : Int32} (hs : sh id = .inl (ci, ks)) (hk : ks[k]? = some kd) (hx : kd = 0 ∨ (kd = 1 ∧ rcb x = x)) :
    (Sum.inr (ci, (ks.mapIdx (fun k kd => rcv Y v id k kd)).set k (.int x)) : va_E) = rce sh Y (rcu v id k x) id := by
  rw [rce_obj hs]
  congr 2
  apply List.ext_getElem?
  intro i
  by_cases hi : k = i
  · subst hi
    have hlt : k < ks.length := (List.getElem?_eq_some_iff.mp hk).1
    rw [List.getElem?_set_self (by simpa using hlt), List.getElem?_mapIdx, hk]
    rcases hx with rfl | ⟨rfl, hb⟩
    · simp [rcv, rcu]
    · simp [rcv, rcu, hb]
  · rw [List.getElem?_set_ne hi, List.getElem?_mapIdx, List.getElem?_mapIdx]
    cases hki : ks[i]? with
    | none => rfl
    | some kd' =>
      have hik : i ≠ k := fun q => hi q.symm
      match kd' with
      | 0 => simp [rcv, rcu, hik]
      | 1 => simp [rcv, rcu, hik]
      | j + 2 => rfl
/-- a walk's fixed things: program, launch, environment, room, start, method, arguments, below, method, code, locals, cells, slots -/
abbrev rcX : Type := Program × Launch × Env × Room × State × MethodId × Array Value × List Frame × Method × Code × Nat × Nat × Nat
abbrev xp (X : rcX) : Program := X.1
abbrev xl (X : rcX) : Launch := X.2.1
abbrev xe (X : rcX) : Env := X.2.2.1
abbrev xR (X : rcX) : Room := X.2.2.2.1
abbrev xs (X : rcX) : State := X.2.2.2.2.1
abbrev xm (X : rcX) : MethodId := X.2.2.2.2.2.1
abbrev xa (X : rcX) : Array Value := X.2.2.2.2.2.2.1
abbrev xb (X : rcX) : List Frame := X.2.2.2.2.2.2.2.1
abbrev xh (X : rcX) : Method := X.2.2.2.2.2.2.2.2.1
abbrev xc (X : rcX) : Code := X.2.2.2.2.2.2.2.2.2.1
abbrev xn (X : rcX) : Nat := X.2.2.2.2.2.2.2.2.2.2.1
abbrev xk (X : rcX) : Nat := X.2.2.2.2.2.2.2.2.2.2.2.1
abbrev xo (X : rcX) : Nat := X.2.2.2.2.2.2.2.2.2.2.2.2
/-- from here on the walk comes to Q, whatever the heap is that holds the world -/
def rcG {σ : Type} (X : rcX) (Wd : σ → Heap → Prop) (A : Nat → Prop) (Q : State → Prop) (pc : Nat) (l : List (Nat × Value)) (st : List Value) (v : σ) : Prop :=
  ∀ (H : Heap) (locs : List Loc) (ls : Array Slot), lv_has ls (xn X) l → Wd v H → va_S A (xs X).heap H locs →
    W (xp X) (xl X) (xe X) (xR X) (xs X) (xm X) (xa X) (xb X) (xh X) (xc X) H locs (xk X) (xo X) Q (F0 (xm X) pc ls st)
abbrev rcE (X : rcX) (cc : ByteArray) : Prop := (xp X).tables.exec = Jvm.exec ∧ (xc X).code = cc
/-- a local's value -/
def rcl (l : List (Nat × Value)) (i : Nat) : Option Value := (l.find? (fun q => q.1 == i)).map (fun q => q.2)
theorem rcl_mem {l : List (Nat × Value)} {i : Nat} {w : Value} (h : rcl l i = some w) : (i, w) ∈ l := by
  unfold rcl at h
  cases hf : l.find? (fun q => q.1 == i) with
  | none => rw [hf] at h; cases h
  | some q =>
    rw [hf] at h
    have h1 : q.2 = w := Option.some.inj h
    have h2 : q.1 = i := by simpa using List.find?_some hf
    subst h1; subst h2
    exact List.mem_of_find?_eq_some hf
theorem rcl_at {ls : Array Slot} {n : Nat} {l : List (Nat × Value)} {i : Nat} {w : Value} (h : lv_has ls n l) (hi : rcl l i = some w) : ls[i]? = some (.val w) := h.2.2 (i, w) (rcl_mem hi)
/-- locals behind a store of one slot -/
def rcs (l : List (Nat × Value)) (i : Nat) (w : Value) : List (Nat × Value) := (i, w) :: l.filter (fun q => !(q.1 == i) && !(q.1 + 1 == i && q.2.category == 2))
def rcs2 (l : List (Nat × Value)) (i : Nat) (w : Value) : List (Nat × Value) := (i, w) :: l.filter (fun q => !(q.1 == i) && (!(q.1 == i + 1) && !(q.1 + 1 == i && q.2.category == 2)))
section ROWS
variable {σ : Type} {X : rcX} {Wd : σ → Heap → Prop} {A : Nat → Prop} {Q : State → Prop} {pc : Nat} {l : List (Nat × Value)} {st : List Value} {v : σ} {cc : ByteArray}
theorem j_loc (l' : List (Nat × Value)) (h : l'.map (fun q => rcl l q.1) = l'.map (fun q => some q.2)) (k : rcG X Wd A Q pc l' st v) : rcG X Wd A Q pc l st v := by
  intro H locs ls hl hw hS
  refine k H locs ls ⟨hl.1, hl.2.1, fun q hq => ?_⟩ hw hS
  have h1 : rcl l q.1 = some q.2 := by
    obtain ⟨i, hi⟩ := List.getElem?_of_mem hq
    have h2 := congrArg (fun z => z[i]?) h
    simp only [List.getElem?_map, hi, Option.map_some] at h2
    exact Option.some.inj h2
  exact rcl_at hl h1
theorem j_top {x y : Int32} (h : x = y) (k : rcG X Wd A Q pc l (.int y :: st) v) : rcG X Wd A Q pc l (.int x :: st) v := h ▸ k
theorem j_iconst (F : rcE X cc) {n : Int} (x : Int32) (hdg : decode cc pc = .ok (.iconst n, 1)) (hv : Int32.ofInt n = x) (k : rcG X Wd A Q (pc + 1) l (.int x :: st) v) : rcG X Wd A Q pc l st v := fun H locs ls hl hw hS => lv_iconst F.1 F.2 hdg hv (k H locs ls hl hw hS)
theorem j_bipush (F : rcE X cc) {n : Int} (x : Int32) (hdg : decode cc pc = .ok (.bipush n, 2)) (hv : (Int8.ofInt n).toInt32 = x) (k : rcG X Wd A Q (pc + 2) l (.int x :: st) v) : rcG X Wd A Q pc l st v := fun H locs ls hl hw hS => lv_bipush F.1 F.2 hdg hv (k H locs ls hl hw hS)
theorem j_sipush (F : rcE X cc) {n : Int} (x : Int32) (hdg : decode cc pc = .ok (.sipush n, 3)) (hv : (Int16.ofInt n).toInt32 = x) (k : rcG X Wd A Q (pc + 3) l (.int x :: st) v) : rcG X Wd A Q pc l st v := fun H locs ls hl hw hS => lv_sipush F.1 F.2 hdg hv (k H locs ls hl hw hS)
theorem j_iload_n (F : rcE X cc) {i : Fin 4} {x : Int32} (hdg : decode cc pc = .ok (.iload_n i, 1)) (hx : rcl l i = some (.int x)) (k : rcG X Wd A Q (pc + 1) l (.int x :: st) v) : rcG X Wd A Q pc l st v := fun H locs ls hl hw hS => lv_iload_n F.1 F.2 hdg rfl (rcl_at hl hx) (k H locs ls hl hw hS)
theorem j_iload (F : rcE X cc) {i : Nat} {x : Int32} (hdg : decode cc pc = .ok (.iload i, 2)) (hx : rcl l i = some (.int x)) (k : rcG X Wd A Q (pc + 2) l (.int x :: st) v) : rcG X Wd A Q pc l st v := fun H locs ls hl hw hS => lv_iload F.1 F.2 hdg (rcl_at hl hx) (k H locs ls hl hw hS)
theorem j_lload_n (F : rcE X cc) {i : Fin 4} {x : Int64} (hdg : decode cc pc = .ok (.lload_n i, 1)) (hx : rcl l i = some (.long x)) (k : rcG X Wd A Q (pc + 1) l (.long x :: st) v) : rcG X Wd A Q pc l st v := fun H locs ls hl hw hS => lv_lload_n F.1 F.2 hdg rfl (rcl_at hl hx) (k H locs ls hl hw hS)
theorem j_aload_n (F : rcE X cc) {i : Fin 4} {x : Nat} (hdg : decode cc pc = .ok (.aload_n i, 1)) (hx : rcl l i = some (.ref x)) (k : rcG X Wd A Q (pc + 1) l (.ref x :: st) v) : rcG X Wd A Q pc l st v := fun H locs ls hl hw hS => lv_aload_n F.1 F.2 hdg rfl (rcl_at hl hx) (k H locs ls hl hw hS)
theorem j_istore_n (F : rcE X cc) {i : Fin 4} {x : Int32} (hdg : decode cc pc = .ok (.istore_n i, 1)) (hn : (i : Nat) < xn X) (k : rcG X Wd A Q (pc + 1) (rcs l i (.int x)) st v) : rcG X Wd A Q pc l (.int x :: st) v := fun H locs ls hl hw hS => lv_istore_n F.1 F.2 hdg rfl hl hn rfl (fun ls' hl' => k H locs ls' hl' hw hS)
theorem j_istore (F : rcE X cc) {i : Nat} {x : Int32} (hdg : decode cc pc = .ok (.istore i, 2)) (hn : i < xn X) (k : rcG X Wd A Q (pc + 2) (rcs l i (.int x)) st v) : rcG X Wd A Q pc l (.int x :: st) v := fun H locs ls hl hw hS => lv_istore F.1 F.2 hdg hl hn rfl (fun ls' hl' => k H locs ls' hl' hw hS)
theorem j_lstore_n (F : rcE X cc) {i : Fin 4} {x : Int64} (hdg : decode cc pc = .ok (.lstore_n i, 1)) (hn : (i : Nat) + 1 < xn X) (k : rcG X Wd A Q (pc + 1) (rcs2 l i (.long x)) st v) : rcG X Wd A Q pc l (.long x :: st) v := fun H locs ls hl hw hS => lv_lstore_n F.1 F.2 hdg rfl hl hn rfl (fun ls' hl' => k H locs ls' hl' hw hS)
theorem j_astore_n (F : rcE X cc) {i : Fin 4} {x : Nat} (hdg : decode cc pc = .ok (.astore_n i, 1)) (hn : (i : Nat) < xn X) (k : rcG X Wd A Q (pc + 1) (rcs l i (.ref x)) st v) : rcG X Wd A Q pc l (.ref x :: st) v := fun H locs ls hl hw hS => lv_astore_n F.1 F.2 hdg rfl hl hn rfl (fun ls' hl' => k H locs ls' hl' hw hS)
theorem j_iinc (F : rcE X cc) {i : Nat} {n : Int} {x : Int32} (d : Int32) (hdg : decode cc pc = .ok (.iinc i n, 3)) (hd : Int32.ofInt n = d) (hx : rcl l i = some (.int x)) (hn : i < xn X) (k : rcG X Wd A Q (pc + 3) (rcs l i (.int (x + d))) st v) : rcG X Wd A Q pc l st v := by
  intro H locs ls hl hw hS
  subst hd
  obtain ⟨j, hj⟩ := List.getElem?_of_mem (rcl_mem hx)
  exact lv_iinc F.1 F.2 hdg hl hj rfl hn rfl (fun ls' hl' => k H locs ls' hl' hw hS)
theorem j_iadd (F : rcE X cc) {x y : Int32} (hdg : decode cc pc = .ok (.iadd, 1)) (k : rcG X Wd A Q (pc + 1) l (.int (x + y) :: st) v) : rcG X Wd A Q pc l (.int y :: .int x :: st) v := fun H locs ls hl hw hS => lv_iadd F.1 F.2 hdg (k H locs ls hl hw hS)
theorem j_isub (F : rcE X cc) {x y : Int32} (hdg : decode cc pc = .ok (.isub, 1)) (k : rcG X Wd A Q (pc + 1) l (.int (x - y) :: st) v) : rcG X Wd A Q pc l (.int y :: .int x :: st) v := fun H locs ls hl hw hS => lv_isub F.1 F.2 hdg (k H locs ls hl hw hS)
theorem j_imul (F : rcE X cc) {x y : Int32} (hdg : decode cc pc = .ok (.imul, 1)) (k : rcG X Wd A Q (pc + 1) l (.int (x * y) :: st) v) : rcG X Wd A Q pc l (.int y :: .int x :: st) v := fun H locs ls hl hw hS => lv_imul F.1 F.2 hdg (k H locs ls hl hw hS)
theorem j_iand (F : rcE X cc) {x y : Int32} (hdg : decode cc pc = .ok (.iand, 1)) (k : rcG X Wd A Q (pc + 1) l (.int (x &&& y) :: st) v) : rcG X Wd A Q pc l (.int y :: .int x :: st) v := fun H locs ls hl hw hS => lv_iand F.1 F.2 hdg (k H locs ls hl hw hS)
theorem j_ior (F : rcE X cc) {x y : Int32} (hdg : decode cc pc = .ok (.ior, 1)) (k : rcG X Wd A Q (pc + 1) l (.int (x ||| y) :: st) v) : rcG X Wd A Q pc l (.int y :: .int x :: st) v := fun H locs ls hl hw hS => lv_ior F.1 F.2 hdg (k H locs ls hl hw hS)
theorem j_ixor (F : rcE X cc) {x y : Int32} (hdg : decode cc pc = .ok (.ixor, 1)) (k : rcG X Wd A Q (pc + 1) l (.int (x ^^^ y) :: st) v) : rcG X Wd A Q pc l (.int y :: .int x :: st) v := fun H locs ls hl hw hS => lv_ixor F.1 F.2 hdg (k H locs ls hl hw hS)
theorem j_ishl (F : rcE X cc) {x y : Int32} (hdg : decode cc pc = .ok (.ishl, 1)) (k : rcG X Wd A Q (pc + 1) l (.int (x <<< (y &&& 31)) :: st) v) : rcG X Wd A Q pc l (.int y :: .int x :: st) v := fun H locs ls hl hw hS => lv_ishl F.1 F.2 hdg (k H locs ls hl hw hS)
theorem j_ishr (F : rcE X cc) {x y : Int32} (hdg : decode cc pc = .ok (.ishr, 1)) (k : rcG X Wd A Q (pc + 1) l (.int (x >>> (y &&& 31)) :: st) v) : rcG X Wd A Q pc l (.int y :: .int x :: st) v := fun H locs ls hl hw hS => lv_ishr F.1 F.2 hdg (k H locs ls hl hw hS)
theorem j_ineg (F : rcE X cc) {x : Int32} (hdg : decode cc pc = .ok (.ineg, 1)) (k : rcG X Wd A Q (pc + 1) l (.int (-x) :: st) v) : rcG X Wd A Q pc l (.int x :: st) v := fun H locs ls hl hw hS => lv_ineg F.1 F.2 hdg (k H locs ls hl hw hS)
theorem j_ladd (F : rcE X cc) {x y : Int64} (hdg : decode cc pc = .ok (.ladd, 1)) (k : rcG X Wd A Q (pc + 1) l (.long (x + y) :: st) v) : rcG X Wd A Q pc l (.long y :: .long x :: st) v := fun H locs ls hl hw hS => lv_ladd F.1 F.2 hdg (k H locs ls hl hw hS)
theorem j_lsub (F : rcE X cc) {x y : Int64} (hdg : decode cc pc = .ok (.lsub, 1)) (k : rcG X Wd A Q (pc + 1) l (.long (x - y) :: st) v) : rcG X Wd A Q pc l (.long y :: .long x :: st) v := fun H locs ls hl hw hS => lv_lsub F.1 F.2 hdg (k H locs ls hl hw hS)
theorem j_lmul (F : rcE X cc) {x y : Int64} (hdg : decode cc pc = .ok (.lmul, 1)) (k : rcG X Wd A Q (pc + 1) l (.long (x * y) :: st) v) : rcG X Wd A Q pc l (.long y :: .long x :: st) v := fun H locs ls hl hw hS => lv_lmul F.1 F.2 hdg (k H locs ls hl hw hS)
theorem j_i2l (F : rcE X cc) {x : Int32} (hdg : decode cc pc = .ok (.i2l, 1)) (k : rcG X Wd A Q (pc + 1) l (.long x.toInt64 :: st) v) : rcG X Wd A Q pc l (.int x :: st) v := fun H locs ls hl hw hS => lv_i2l F.1 F.2 hdg rfl (k H locs ls hl hw hS)
theorem j_l2i (F : rcE X cc) {x : Int64} (hdg : decode cc pc = .ok (.l2i, 1)) (k : rcG X Wd A Q (pc + 1) l (.int x.toInt32 :: st) v) : rcG X Wd A Q pc l (.long x :: st) v := fun H locs ls hl hw hS => lv_l2i F.1 F.2 hdg rfl (k H locs ls hl hw hS)
theorem j_i2c (F : rcE X cc) {x : Int32} (hdg : decode cc pc = .ok (.i2c, 1)) (k : rcG X Wd A Q (pc + 1) l (.int (x.toUInt32 % 65536).toInt32 :: st) v) : rcG X Wd A Q pc l (.int x :: st) v := fun H locs ls hl hw hS => lv_i2c F.1 F.2 hdg rfl (k H locs ls hl hw hS)
theorem j_lcmp (F : rcE X cc) {x y : Int64} (hdg : decode cc pc = .ok (.lcmp, 1)) (k : rcG X Wd A Q (pc + 1) l (.int (lg_cmp x y) :: st) v) : rcG X Wd A Q pc l (.long y :: .long x :: st) v := fun H locs ls hl hw hS => W.lcmp F.1 F.2 hdg (k H locs ls hl hw hS)
theorem j_dup (F : rcE X cc) {w : Value} (hdg : decode cc pc = .ok (.dup, 1)) (hc : w.category = 1) (k : rcG X Wd A Q (pc + 1) l (w :: w :: st) v) : rcG X Wd A Q pc l (w :: st) v := fun H locs ls hl hw hS => lv_dup F.1 F.2 hdg hc (k H locs ls hl hw hS)
theorem j_dup2 (F : rcE X cc) {w z : Value} (hdg : decode cc pc = .ok (.dup2, 1)) (hc : w.category = 1) (hz : z.category = 1) (k : rcG X Wd A Q (pc + 1) l (w :: z :: w :: z :: st) v) : rcG X Wd A Q pc l (w :: z :: st) v := fun H locs ls hl hw hS => lv_dup2_11 F.1 F.2 hdg hc hz (k H locs ls hl hw hS)
theorem j_goto (F : rcE X cc) {off : Int} (tgt : Nat) (hdg : decode cc pc = .ok (.goto off, 3)) (ht : (pc : Int) + off = (tgt : Int)) (k : rcG X Wd A Q tgt l st v) : rcG X Wd A Q pc l st v := fun H locs ls hl hw hS => lv_goto F.1 F.2 hdg ht (k H locs ls hl hw hS)
theorem j_if_eq (F : rcE X cc) {x : Int32} {off : Int} (tgt : Nat) (hdg : decode cc pc = .ok (.ifCond .eq off, 3)) (ht : (pc : Int) + off = (tgt : Int)) (kt : x = 0 → rcG X Wd A Q tgt l st v) (kf : ¬ x = 0 → rcG X Wd A Q (pc + 3) l st v) : rcG X Wd A Q pc l (.int x :: st) v := fun H locs ls hl hw hS => lv_if_eq F.1 F.2 hdg ht (fun h => kt h H locs ls hl hw hS) (fun h => kf h H locs ls hl hw hS)
theorem j_icmp_eq (F : rcE X cc) {x y : Int32} {off : Int} (tgt : Nat) (hdg : decode cc pc = .ok (.if_icmp .eq off, 3)) (ht : (pc : Int) + off = (tgt : Int)) (kt : x = y → rcG X Wd A Q tgt l st v) (kf : ¬ x = y → rcG X Wd A Q (pc + 3) l st v) : rcG X Wd A Q pc l (.int y :: .int x :: st) v := fun H locs ls hl hw hS => lv_icmp_eq F.1 F.2 hdg ht (fun h => kt h H locs ls hl hw hS) (fun h => kf h H locs ls hl hw hS)
theorem j_if_ne (F : rcE X cc) {x : Int32} {off : Int} (tgt : Nat) (hdg : decode cc pc = .ok (.ifCond .ne off, 3)) (ht : (pc : Int) + off = (tgt : Int)) (kt : ¬ x = 0 → rcG X Wd A Q tgt l st v) (kf : x = 0 → rcG X Wd A Q (pc + 3) l st v) : rcG X Wd A Q pc l (.int x :: st) v := fun H locs ls hl hw hS => lv_if_ne F.1 F.2 hdg ht (fun h => kt h H locs ls hl hw hS) (fun h => kf h H locs ls hl hw hS)
theorem j_icmp_ne (F : rcE X cc) {x y : Int32} {off : Int} (tgt : Nat) (hdg : decode cc pc = .ok (.if_icmp .ne off, 3)) (ht : (pc : Int) + off = (tgt : Int)) (kt : ¬ x = y → rcG X Wd A Q tgt l st v) (kf : x = y → rcG X Wd A Q (pc + 3) l st v) : rcG X Wd A Q pc l (.int y :: .int x :: st) v := fun H locs ls hl hw hS => lv_icmp_ne F.1 F.2 hdg ht (fun h => kt h H locs ls hl hw hS) (fun h => kf h H locs ls hl hw hS)
theorem j_if_lt (F : rcE X cc) {x : Int32} {off : Int} (tgt : Nat) (hdg : decode cc pc = .ok (.ifCond .lt off, 3)) (ht : (pc : Int) + off = (tgt : Int)) (kt : x < 0 → rcG X Wd A Q tgt l st v) (kf : ¬ x < 0 → rcG X Wd A Q (pc + 3) l st v) : rcG X Wd A Q pc l (.int x :: st) v := fun H locs ls hl hw hS => lv_if_lt F.1 F.2 hdg ht (fun h => kt h H locs ls hl hw hS) (fun h => kf h H locs ls hl hw hS)
theorem j_icmp_lt (F : rcE X cc) {x y : Int32} {off : Int} (tgt : Nat) (hdg : decode cc pc = .ok (.if_icmp .lt off, 3)) (ht : (pc : Int) + off = (tgt : Int)) (kt : x < y → rcG X Wd A Q tgt l st v) (kf : ¬ x < y → rcG X Wd A Q (pc + 3) l st v) : rcG X Wd A Q pc l (.int y :: .int x :: st) v := fun H locs ls hl hw hS => lv_icmp_lt F.1 F.2 hdg ht (fun h => kt h H locs ls hl hw hS) (fun h => kf h H locs ls hl hw hS)
theorem j_if_ge (F : rcE X cc) {x : Int32} {off : Int} (tgt : Nat) (hdg : decode cc pc = .ok (.ifCond .ge off, 3)) (ht : (pc : Int) + off = (tgt : Int)) (kt : 0 ≤ x → rcG X Wd A Q tgt l st v) (kf : ¬ 0 ≤ x → rcG X Wd A Q (pc + 3) l st v) : rcG X Wd A Q pc l (.int x :: st) v := fun H locs ls hl hw hS => lv_if_ge F.1 F.2 hdg ht (fun h => kt h H locs ls hl hw hS) (fun h => kf h H locs ls hl hw hS)
theorem j_icmp_ge (F : rcE X cc) {x y : Int32} {off : Int} (tgt : Nat) (hdg : decode cc pc = .ok (.if_icmp .ge off, 3)) (ht : (pc : Int) + off = (tgt : Int)) (kt : y ≤ x → rcG X Wd A Q tgt l st v) (kf : ¬ y ≤ x → rcG X Wd A Q (pc + 3) l st v) : rcG X Wd A Q pc l (.int y :: .int x :: st) v := fun H locs ls hl hw hS => lv_icmp_ge F.1 F.2 hdg ht (fun h => kt h H locs ls hl hw hS) (fun h => kf h H locs ls hl hw hS)
theorem j_if_gt (F : rcE X cc) {x : Int32} {off : Int} (tgt : Nat) (hdg : decode cc pc = .ok (.ifCond .gt off, 3)) (ht : (pc : Int) + off = (tgt : Int)) (kt : 0 < x → rcG X Wd A Q tgt l st v) (kf : ¬ 0 < x → rcG X Wd A Q (pc + 3) l st v) : rcG X Wd A Q pc l (.int x :: st) v := fun H locs ls hl hw hS => lv_if_gt F.1 F.2 hdg ht (fun h => kt h H locs ls hl hw hS) (fun h => kf h H locs ls hl hw hS)
theorem j_icmp_gt (F : rcE X cc) {x y : Int32} {off : Int} (tgt : Nat) (hdg : decode cc pc = .ok (.if_icmp .gt off, 3)) (ht : (pc : Int) + off = (tgt : Int)) (kt : y < x → rcG X Wd A Q tgt l st v) (kf : ¬ y < x → rcG X Wd A Q (pc + 3) l st v) : rcG X Wd A Q pc l (.int y :: .int x :: st) v := fun H locs ls hl hw hS => lv_icmp_gt F.1 F.2 hdg ht (fun h => kt h H locs ls hl hw hS) (fun h => kf h H locs ls hl hw hS)
theorem j_if_le (F : rcE X cc) {x : Int32} {off : Int} (tgt : Nat) (hdg : decode cc pc = .ok (.ifCond .le off, 3)) (ht : (pc : Int) + off = (tgt : Int)) (kt : x ≤ 0 → rcG X Wd A Q tgt l st v) (kf : ¬ x ≤ 0 → rcG X Wd A Q (pc + 3) l st v) : rcG X Wd A Q pc l (.int x :: st) v := fun H locs ls hl hw hS => lv_if_le F.1 F.2 hdg ht (fun h => kt h H locs ls hl hw hS) (fun h => kf h H locs ls hl hw hS)
theorem j_icmp_le (F : rcE X cc) {x y : Int32} {off : Int} (tgt : Nat) (hdg : decode cc pc = .ok (.if_icmp .le off, 3)) (ht : (pc : Int) + off = (tgt : Int)) (kt : x ≤ y → rcG X Wd A Q tgt l st v) (kf : ¬ x ≤ y → rcG X Wd A Q (pc + 3) l st v) : rcG X Wd A Q pc l (.int y :: .int x :: st) v := fun H locs ls hl hw hS => lv_icmp_le F.1 F.2 hdg ht (fun h => kt h H locs ls hl hw hS) (fun h => kf h H locs ls hl hw hS)
theorem j_tableOut (F : rcE X cc) {dflt lo hi : Int} {offs : Array Int} {len : Nat} {x : Int32} (tgt : Nat) (hdg : decode cc pc = .ok (.tableswitch dflt lo hi offs, len)) (h : x.toInt < lo ∨ hi < x.toInt) (ht : (pc : Int) + dflt = (tgt : Int)) (k : rcG X Wd A Q tgt l st v) : rcG X Wd A Q pc l (.int x :: st) v := fun H locs ls hl hw hS => lv_tableOut F.1 F.2 hdg h ht (k H locs ls hl hw hS)
theorem j_tableIn (F : rcE X cc) {dflt lo hi off : Int} {offs : Array Int} {len : Nat} {x : Int32} (tgt : Nat) (hdg : decode cc pc = .ok (.tableswitch dflt lo hi offs, len)) (h1 : ¬ x.toInt < lo) (h2 : ¬ hi < x.toInt) (ho : offs[(x.toInt - lo).toNat]? = some off) (ht : (pc : Int) + off = (tgt : Int)) (k : rcG X Wd A Q tgt l st v) : rcG X Wd A Q pc l (.int x :: st) v := fun H locs ls hl hw hS => lv_tableIn F.1 F.2 hdg h1 h2 ho ht (k H locs ls hl hw hS)
theorem j_lookup (F : rcE X cc) {dflt off : Int} {ps : Array (Int × Int)} {len : Nat} {x : Int32} (tgt : Nat) (hdg : decode cc pc = .ok (.lookupswitch dflt ps, len)) (hp : (ps.toList.zip (ps.toList.drop 1)).all (fun (a, next) => a.1 < next.1) = true) (ho : Op.lookupswitch.offset ps.toList dflt x.toInt = off) (ht : (pc : Int) + off = (tgt : Int)) (k : rcG X Wd A Q tgt l st v) : rcG X Wd A Q pc l (.int x :: st) v := fun H locs ls hl hw hS => lv_lookup F.1 F.2 hdg hp ho ht (k H locs ls hl hw hS)
end ROWS
