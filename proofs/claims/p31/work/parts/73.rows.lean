section GROWK
variable {p : Program} {l : Launch} {e : Env} {R : Room} {s : State} {m : MethodId} {args : Array Value} {below : List Frame} {meth : Method} {c : Code} {Q : State → Prop} {Z : gZ} {A : Nat → Prop} {nL k n pc : Nat} {lv : List (Nat × Value)} {st : List Value} {ws : va_W} {cc : ByteArray} {ret : Option FieldType} {own : String}
theorem g_look2 (X : Cx p s m args meth c cc nL ret own Z A) {dflt k1 o1 k2 o2 : Int} {len : Nat} {a : Int} (t0 t1 td : Nat) (hr : inR a) (hk : k1 < k2) (h0 : (pc : Int) + o1 = (t0 : Int)) (h1 : (pc : Int) + o2 = (t1 : Int)) (h2 : (pc : Int) + dflt = (td : Int)) (hd : decode cc pc = .ok (.lookupswitch dflt #[(k1, o1), (k2, o2)], len)) (c1 : a = k1 → Gs p l e R s m args below meth c Q Z A nL k n t0 lv st ws) (c2 : a = k2 → Gs p l e R s m args below meth c Q Z A nL k n t1 lv st ws) (c3 : ¬ (a = k1 ∨ a = k2) → Gs p l e R s m args below meth c Q Z A nL k n td lv st ws) : Gs p l e R s m args below meth c Q Z A nL k n pc lv (.int (iI a) :: st) ws := by
  by_cases ha : a = k1
  · exact fun H locs ls hP hD hS hl => lv_lookup X.ex X.by' (off := o1) hd (by simp [hk]) (by rw [iI_int hr]; simp [Op.lookupswitch.offset, ha]) h0 (c1 ha H locs ls hP hD hS hl)
  · by_cases hb : a = k2
    · exact fun H locs ls hP hD hS hl => lv_lookup X.ex X.by' (off := o2) hd (by simp [hk]) (by rw [iI_int hr]; simp [Op.lookupswitch.offset, show ¬ k1 = a by omega, hb]; omega) h1 (c2 hb H locs ls hP hD hS hl)
    · exact fun H locs ls hP hD hS hl => lv_lookup X.ex X.by' (off := dflt) hd (by simp [hk]) (by rw [iI_int hr]; simp [Op.lookupswitch.offset, show ¬ k1 = a by omega, show ¬ k2 = a by omega]) h2 (c3 (by omega) H locs ls hP hD hS hl)
end GROWK
theorem upd_all {F G : Nat → Int} {i v : Int} (h : ∀ j : Nat, (j : Int) < i → F j = v) (e : G = updI F i.toNat v) (hi : 0 ≤ i) {j : Nat} (hj : (j : Int) < i + 1) : G j = v := by
  rw [e]
  by_cases q : j = i.toNat
  · subst q; exact updI_s _ _ _
  · rw [updI_n _ _ q]; exact h j (by omega)
theorem va_up_at {f : Nat → Option Nat} (i : Nat) (v : Nat) : va_up f i (some v) i = some v := by simp [va_up]
