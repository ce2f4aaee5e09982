/-! the leaves named; rows of the last constructors -/
def zt_X (z : Shp) (j p : Nat) : Shp := (zset (zfr z j 21 500) p 0 j)
def mt_X (M : Mem) (j p : Nat) : Mem := (put (put (put (put (put (put (put (put (put (setR M j (fun _ => 0)) p 1 (0)) p 2 (0)) p 3 (0)) p 4 (0)) p 5 (0)) p 6 (0)) p 7 (0)) p 8 (0)) p 9 (-1))
def zt_C (z : Shp) (j p : Nat) : Shp := (zset (zfr (zset (zfr (zset (zfr (zset (zfr z j 20 20) p 0 j) (j + 1) 20 20) p 1 (j + 1)) (j + 2) 20 20) p 2 (j + 2)) (j + 3) 20 20) p 3 (j + 3))
def mt_C (M : Mem) (j p : Nat) : Mem := (put (put (setR (setR (setR (setR M j (fun _ => 0)) (j + 1) (fun _ => 0)) (j + 2) (fun _ => 0)) (j + 3) (fun _ => 0)) p 4 (0)) p 5 (0))
def zt_O (z : Shp) (j p : Nat) : Shp := (zset (zfr z j 21 360) p 0 j)
def mt_O (M : Mem) (j p : Nat) : Mem := (put (setR M j (fun _ => 0)) p 1 (0))
def zt_T (z : Shp) (j p : Nat) : Shp := (zset (zset (zfr (zset (zfr (zset (zfr (zfr (zset (zset (zfr (zset (zfr (zset (zfr (zfr (zset (zset (zfr (zfr (zset (zfr (zset (zfr z j 1 0) p 0 j) (j + 1) 20 16) p 1 (j + 1)) (j + 2) 8 0) (j + 3) 20 8) (j + 2) 0 (j + 3)) p 3 (j + 2)) (j + 4) 3 0) (j + 5) 20 30) (j + 4) 1 (j + 5)) (j + 6) 20 30) (j + 4) 2 (j + 6)) (j + 7) 20 30) (j + 4) 3 (j + 7)) p 4 (j + 4)) (j + 8) 3 0) (j + 9) 20 90) (j + 8) 1 (j + 9)) (j + 10) 20 90) (j + 8) 2 (j + 10)) (j + 11) 20 90) (j + 8) 3 (j + 11)) p 5 (j + 8))
def mt_T (M : Mem) (j p : Nat) : Mem := (put (put (put (setR (setR (setR (put (put (put (put (setR (setR (setR (setR (put (put (put (put (setR (put (put (setR (setR (put (setR (put (put (put (put (put (put (put (put (put (put (put (put (put (setR M j (fun _ => 0)) j 0 0) j 1 0) j 2 0) j 3 1) j 4 1) j 5 1) j 6 0) j 7 0) j 8 0) j 9 0) j 10 0) j 11 0) j 12 0) (j + 1) (fun _ => 0)) p 2 (0)) (j + 2) (fun _ => 0)) (j + 3) (fun _ => 0)) (j + 2) 1 (0)) (j + 2) 2 (0)) (j + 4) (fun _ => 0)) (j + 4) 4 (0)) (j + 4) 5 (0)) (j + 4) 6 (0)) (j + 4) 0 (nI 30)) (j + 5) (fun _ => 0)) (j + 6) (fun _ => 0)) (j + 7) (fun _ => 0)) (j + 8) (fun _ => 0)) (j + 8) 4 (0)) (j + 8) 5 (0)) (j + 8) 6 (0)) (j + 8) 0 (nI 90)) (j + 9) (fun _ => 0)) (j + 10) (fun _ => 0)) (j + 11) (fun _ => 0)) p 6 (1)) p 7 (0)) p 8 (0))
def mt_K (M : Mem) (p : Nat) : Mem := put (put (put (put (put (put (put (put (put (put (put (put (put M p 0 0) p 1 0) p 2 0) p 3 1) p 4 1) p 5 1) p 6 0) p 7 0) p 8 0) p 9 0) p 10 0) p 11 0) p 12 0
theorem zset_ne {z : Shp} {p k a q : Nat} (h : q ≠ p) : zset z p k a q = z q := if_neg h
theorem zfr_ne {z : Shp} {j c n q : Nat} (h : q ≠ j) : zfr z j c n q = z q := if_neg h
theorem zt_T_ne {z : Shp} {j p q : Nat} (h1 : q < j) (h2 : q ≠ p) : zt_T z j p q = z q := by
  unfold zt_T
  simp (disch := omega) only [zset_ne, zfr_ne]
section IC
variable {ρ : Type} {p : Program} {l : Launch} {e : Env} {R : Room} {s : State} {m : MethodId} {args : Array Value} {below : List Frame} {meth : Method} {c : Code} {w : Wc} {nL k n : Nat} {Qf : ρ → State → Prop} {cc : ByteArray} {own : String}
theorem icmp_ge_lt (g : Gd p s m args meth c w nL cc own) {pc : Nat} {L : List (Nat × Value)} {st : List Value} {M : Mem} {o : Option ρ} {x y : Int32} {off : Int} (tgt : Nat) (h : x < y) (d : decode cc pc = .ok (.if_icmp .ge off, 3)) (ht : (pc : Int) + off = (tgt : Int)) (kk : Go p l e R s m args below meth c w nL k n Qf o (pc + 3) L st M) : Go p l e R s m args below meth c w nL k n Qf o pc L (.int y :: .int x :: st) M := by
  have := G_icmp_ge (x := x) (y := y) (o1 := o) (o2 := none) g tgt d ht kk (fun r hr => by cases hr)
  rwa [if_pos h] at this
theorem icmp_ge_ge (g : Gd p s m args meth c w nL cc own) {pc : Nat} {L : List (Nat × Value)} {st : List Value} {M : Mem} {o : Option ρ} {x y : Int32} {off : Int} (tgt : Nat) (h : ¬ x < y) (d : decode cc pc = .ok (.if_icmp .ge off, 3)) (ht : (pc : Int) + off = (tgt : Int)) (kk : Go p l e R s m args below meth c w nL k n Qf o tgt L st M) : Go p l e R s m args below meth c w nL k n Qf o pc L (.int y :: .int x :: st) M := by
  have := G_icmp_ge (x := x) (y := y) (o1 := none) (o2 := o) g tgt d ht (fun r hr => by cases hr) kk
  rwa [if_neg h] at this
/-- a call whose answer is known -/
theorem Go.known {M1 : Mem} {f : Option Mem} {pc : Nat} {L : List (Nat × Value)} {st : List Value} {M : Mem} {r0 : ρ} (hf : f = some M1) (kk : ∀ K : Mem → Option ρ, (∀ M2 r, K M2 = some r → M2 = M1 ∧ r = r0) → Go p l e R s m args below meth c w nL k n Qf (bndM f K) pc L st M) : Go p l e R s m args below meth c w nL k n Qf (some r0) pc L st M := by
  classical
  have h := kk (fun M2 => if M2 = M1 then some r0 else none) (fun M2 r hr => by
    by_cases h : M2 = M1
    · rw [if_pos h] at hr
      cases hr
      exact ⟨h, rfl⟩
    · rw [if_neg h] at hr
      cases hr)
  rw [hf] at h
  have e0 : bndM (some M1) (fun M2 => if M2 = M1 then some r0 else none) = some r0 := if_pos rfl
  rw [e0] at h
  exact h
theorem Go.of {K : Mem → Option ρ} {M1 M2 : Mem} {r0 : ρ} {pc : Nat} {L : List (Nat × Value)} {st : List Value} (hK : ∀ M2 r, K M2 = some r → M2 = M1 ∧ r = r0) (kk : Go p l e R s m args below meth c w nL k n Qf (some r0) pc L st M1) : Go p l e R s m args below meth c w nL k n Qf (K M2) pc L st M2 := by
  intro r hr
  obtain ⟨rfl, rfl⟩ := hK M2 r hr
  exact kk r rfl
end IC
