/-! THE MODEL'S CELLS: the object m, its row f at ar f; its scalars sc, its rows M -/
def mRow (f : Nat) : Bool := (Nat.ble 5 f && Nat.ble f 16) || (Nat.ble 18 f && Nat.ble f 24) || (Nat.ble 26 f && Nat.ble f 28)
def mScl (x : Nat) : Bool := Nat.ble x 4 || Nat.beq x 17 || Nat.beq x 25 || (Nat.ble 29 x && Nat.ble x 31)
def mLen (f : Nat) : Nat := if Nat.ble 13 f && Nat.ble f 16 then 160 else if Nat.ble f 12 then 40 else 20
def mKnd (f : Nat) : Nat := if Nat.beq f 16 then 7 else 6
def mG (S : hS) (m : Nat) (ar : Nat → Nat) : Prop := isO S m 5 ∧ (∀ f, mRow f = true → sR S (60 + f) m = some (ar f) ∧ isO S (ar f) (mKnd f) ∧ sN S (ar f) = mLen f) ∧ ∀ f g, mRow f = true → mRow g = true → ar f = ar g → f = g
def mS (S : hS) (m : Nat) (ar : Nat → Nat) (sc : Nat → Int32) (M : Nat → Nat → Int32) : Prop := mG S m ar ∧ (∀ x, mScl x = true → sF S (60 + x) m = sc x) ∧ ∀ f, mRow f = true → sA S (ar f) = M f
theorem mdF.rf (S : hS) : mdF S S := ⟨fun _ _ h => h, fun _ _ _ => ⟨rfl, rfl⟩, fun _ => ⟨rfl, rfl⟩⟩
theorem mdF.trans {S T U : hS} (h1 : mdF S T) (h2 : mdF T U) : mdF S U :=
  ⟨fun a k h => h2.1 a k (h1.1 a k h), fun x a hx => ⟨((h2.2.1 x a hx).1).trans (h1.2.1 x a hx).1, ((h2.2.1 x a hx).2).trans (h1.2.1 x a hx).2⟩, fun a => ⟨((h2.2.2 a).1).trans (h1.2.2 a).1, ((h2.2.2 a).2).trans (h1.2.2 a).2⟩⟩
theorem mdF_uF (S : hS) {k : Nat} (a : Nat) (v : Int32) (hk : 60 ≤ k) : mdF S (uF S k a v) := ⟨fun _ _ h => h, fun x b hx => ⟨by rw [sF_uF, if_neg (fun z => by omega)], rfl⟩, fun _ => ⟨rfl, rfl⟩⟩
theorem mdF_uA (S : hS) (a j : Nat) (v : Int32) : mdF S (uA S a j v) := ⟨fun _ _ h => h, fun x b _ => ⟨rfl, rfl⟩, fun _ => ⟨rfl, rfl⟩⟩
theorem mS_F {S : hS} {m : Nat} {ar : Nat → Nat} {sc : Nat → Int32} {M : Nat → Nat → Int32} (h : mS S m ar sc M) (x : Nat) (v : Int32) : mS (uF S (60 + x) m v) m ar (va_up sc x v) M := by
  refine ⟨h.1, fun y hy => ?_, h.2.2⟩
  rw [sF_uF]
  by_cases hyx : y = x
  · rw [if_pos ⟨by rw [hyx], rfl⟩, hyx, va_up_self]
  · rw [if_neg (fun z => by omega), va_up_ne _ _ hyx]
    exact h.2.1 y hy
theorem mS_A {S : hS} {m : Nat} {ar : Nat → Nat} {sc : Nat → Int32} {M : Nat → Nat → Int32} (h : mS S m ar sc M) {f : Nat} (hf : mRow f = true) (j : Nat) (v : Int32) : mS (uA S (ar f) j v) m ar sc (u2 M f j v) := by
  refine ⟨h.1, h.2.1, fun g hg => ?_⟩
  show u2 (sA S) (ar f) j v (ar g) = u2 M f j v g
  by_cases hgf : g = f
  · subst hgf
    rw [u2_row, u2_row, h.2.2 g hg]
  · rw [u2_off _ _ _ hgf, u2_off _ _ _ (fun z => hgf (h.1.2.2 g f hg hf z)), h.2.2 g hg]
/-! what a call leaves -/
def mI (S : hS) (m : Nat) (ar : Nat → Nat) (r : Int32) (sc : Nat → Int32) (M : Nat → Nat → Int32) : Option Value → hS → Prop := pGI (fun v S' => v = r ∧ mS S' m ar sc M ∧ mdF S S')
def mL (S : hS) (m : Nat) (ar : Nat → Nat) (r : Int64) (sc : Nat → Int32) (M : Nat → Nat → Int32) : Option Value → hS → Prop := pGL (fun v S' => v = r ∧ mS S' m ar sc M ∧ mdF S S')
def mV (S : hS) (m : Nat) (ar : Nat → Nat) (sc : Nat → Int32) (M : Nat → Nat → Int32) : Option Value → hS → Prop := pGV (fun S' => mS S' m ar sc M ∧ mdF S S')
section HMd
variable {p : Program} {l : Launch} {e : Env} {R : Room} {s : State} {m' : MethodId} {args : Array Value} {below : List Frame} {meth : Method} {c : Code} {nL : Nat} {g : hG} {X : va_W} {Q : State → Prop} {S S0 : hS} {cells slots : Nat} {lv : List (Nat × Value)} {pc : Nat} {st : List Value} {m : Nat} {ar : Nat → Nat} {sc : Nat → Int32} {M : Nat → Nat → Int32}
theorem q_mF (x : Nat) {v : Int32} (hM : mS S m ar sc M) (hm : mdF S0 S) (kk : ∀ S' : hS, mS S' m ar (va_up sc x v) M → mdF S0 S' → V p l e R s m' args below meth c nL g X Q S' cells slots lv pc st) : V p l e R s m' args below meth c nL g X Q (uF S (60 + x) m v) cells slots lv pc st :=
  kk _ (mS_F hM x v) (hm.trans (mdF_uF _ _ _ (Nat.le_add_right 60 x)))
theorem q_mA (f : Nat) {j : Nat} {v : Int32} (hf : mRow f = true) (hM : mS S m ar sc M) (hm : mdF S0 S) (kk : ∀ S' : hS, mS S' m ar sc (u2 M f j v) → mdF S0 S' → V p l e R s m' args below meth c nL g X Q S' cells slots lv pc st) : V p l e R s m' args below meth c nL g X Q (uA S (ar f) j v) cells slots lv pc st :=
  kk _ (mS_A hM hf j v) (hm.trans (mdF_uA _ _ _ _))
theorem q_mg (x : Nat) (w : Int32) (hx : mScl x = true) (hM : mS S m ar sc M) (h : sc x = w) (kk : V p l e R s m' args below meth c nL g X Q S cells slots lv pc (.int w :: st)) : V p l e R s m' args below meth c nL g X Q S cells slots lv pc (.int (sF S (60 + x) m) :: st) := by
  rw [hM.2.1 x hx, h]
  exact kk
theorem q_ma (f : Nat) (w : Int32) {j : Nat} (hf : mRow f = true) (hM : mS S m ar sc M) (h : M f j = w) (kk : V p l e R s m' args below meth c nL g X Q S cells slots lv pc (.int w :: st)) : V p l e R s m' args below meth c nL g X Q S cells slots lv pc (.int (sA S (ar f) j) :: st) := by
  rw [hM.2.2 f hf, h]
  exact kk
end HMd
