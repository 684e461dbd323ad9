/-! BEHIND THE LAW'S LOOP: the states, the steps -/
def e2G (g : Gh) (v : Nat) : Gh := setS (psh (kpg g)) (ur g.1 31 (nI v))
def e3G (g : Gh) (v w : Nat) : Gh := setS (psh (e2G g v)) (ur (e2G g v).1 30 (nI w))
def e4G (g : Gh) (v : Nat) : Gh := ((e2G g v).1, 3, (psh (e2G g v)).2.2)
def e5G (g : Gh) (v : Nat) : Gh := (g.1, 2, (psh (e2G g v)).2.2)
def e6G (g : Gh) (v : Nat) : Gh := (gT g 3, 1, (psh (e2G g v)).2.2)
def e7G (g : Gh) (v : Nat) : Gh := (gT g 2, 0, (psh (e2G g v)).2.2)
def e8G (g : Gh) (v : Nat) : Gh := setS (psh (e7G g v)) g.1
section EN
variable {g : Gh} {v w : Nat}
theorem e_k1 (hk : gK g = 4) : gK (kpg g) = 4 := hk
theorem e_k2 (hk : gK g = 4) : gK (e2G g v) = 4 := gK_s (g := kpg g) hk
theorem e_t2 (hk : gK g = 4) : gT (psh (e2G g v)) 2 = g.1 := by
  rw [psh_T (e_k2 hk), if_neg (by decide)]
  show gT (psh (kpg g)) 3 = g.1
  rw [psh_T (e_k1 hk), if_pos rfl]
  rfl
theorem e_t1 (hk : gK g = 4) : gT (psh (e2G g v)) 1 = gT g 3 := by
  rw [psh_T (e_k2 hk), if_neg (by decide)]
  show gT (psh (kpg g)) 2 = gT g 3
  rw [psh_T (e_k1 hk), if_neg (by decide)]
  rfl
theorem e_t0 (hk : gK g = 4) : gT (psh (e2G g v)) 0 = gT g 2 := by
  rw [psh_T (e_k2 hk), if_neg (by decide)]
  show gT (psh (kpg g)) 1 = gT g 2
  rw [psh_T (e_k1 hk), if_neg (by decide)]
  rfl
theorem x_held : StG (f_X7_count 2) g (nI (hdN g.1)) g := f_count (k := 2) (by omega)
theorem x_h1 (h0 : inb 0 (nh g.1) = true) {n : Nat} (hx : g.1 31 = nI n) : StG (f_X7_household 0 1) (kpg g) (nI n) (kpg g) := by
  have h := f_house_1 (g := kpg g) h0
  rw [show (kpg g).1 31 = nI n from hx] at h
  exact h
theorem x_c1 (hh : 1 ≤ nh g.1) (h12 : nh g.1 ≤ 12) {n : Nat} (hx : g.1 31 = nI n) (hn : n ≤ 9999) (hv : v = n % 9999 + 1) : StG (f_X7_change 0 1 (nI v)) (kpg g) (nI n) (e2G g v) := step_ch1 (g := kpg g) hh h12 hx hn hv
theorem e2_nh : nh (e2G g v).1 = nh g.1 := nh_ur (by omega)
theorem e2_nf : nf (e2G g v).1 = nf g.1 := nf_ur (by omega)
theorem e2_30 : (e2G g v).1 30 = g.1 30 := by
  show ur g.1 31 (nI v) 30 = g.1 30
  exact ur_ne (by omega)
theorem x_h0 (h0 : inb 0 (nh g.1) = true) {n : Nat} (hx : g.1 30 = nI n) : StG (f_X7_household 0 0) (e2G g v) (nI n) (e2G g v) := by
  have h := f_house_0 (g := e2G g v) (by rw [e2_nh]; exact h0)
  rw [e2_30, hx] at h
  exact h
theorem x_c0 (hh : 1 ≤ nh g.1) (h12 : nh g.1 ≤ 12) {n : Nat} (hx : g.1 30 = nI n) (hn : n ≤ 9) (hw : w = n % 9 + 1) : StG (f_X7_change 0 0 (nI w)) (e2G g v) (nI n) (e3G g v w) := step_ch0 (g := e2G g v) (by rw [e2_nh]; exact hh) (by rw [e2_nh]; exact h12) (by rw [e2_30]; exact hx) hn hw
theorem e3_nh : nh (e3G g v w).1 = nh g.1 := (nh_ur (by omega)).trans e2_nh
theorem e3_nf : nf (e3G g v w).1 = nf g.1 := (nf_ur (by omega)).trans e2_nf
theorem e3_i (hv : v < 2147483648) : fP (e3G g v w).1 0 1 = v := by
  have e : (e3G g v w).1 31 = nI v := by
    show ur (ur g.1 31 (nI v)) 30 (nI w) 31 = nI v
    rw [ur_ne (by omega), ur_eq]
  show ((e3G g v w).1 31).toNatClampNeg = v
  rw [e, nN hv]
theorem x_u3 (hk : gK g = 4) : StG f_X7_undo (e3G g v w) 3 (e4G g v) := step_undo (g := e2G g v) (e_k2 hk)
theorem x_u4 (hk : gK g = 4) : StG f_X7_undo (e4G g v) (nI 2) (e5G g v) := step_undo2 (g := e4G g v) (n := 2) rfl (e_t2 hk)
theorem x_u5 (hk : gK g = 4) : StG f_X7_undo (e5G g v) (nI 1) (e6G g v) := step_undo2 (g := e5G g v) (n := 1) rfl (e_t1 hk)
theorem x_u6 (hk : gK g = 4) : StG f_X7_undo (e6G g v) (nI 0) (e7G g v) := step_undo2 (g := e6G g v) (n := 0) rfl (e_t0 hk)
theorem x_u7 : StG f_X7_undo (e7G g v) (-5) (e7G g v) := step_undo0 rfl
theorem x_re : StG f_X7_restore (e7G g v) (nI (hdN g.1)) (e8G g v) := step_restore rfl rfl
theorem x_n5 : StG (f_X7_count 11) (e5G g v) (nI 2) (e5G g v) := step_count11 rfl
theorem x_n6 : StG (f_X7_count 11) (e6G g v) (nI 1) (e6G g v) := step_count11 rfl
theorem x_n7 : StG (f_X7_count 11) (e7G g v) (nI 0) (e7G g v) := step_count11 rfl
theorem x_n8 : StG (f_X7_count 11) (e8G g v) (nI 1) (e8G g v) := step_count11 rfl
end EN
theorem q_end {p : Program} {l : Launch} {e : Env} {s : State} {m : MethodId} {below : List Frame} {meth : Method} {c : Code} {D : va_G} {cs : Nat → ClassId} {b pc : Nat} {P : va_W → Prop} {lv : List (Nat × Value)} (C : CQ p s m #[Value.ref b] meth c cL_law 11 D cs) (hr : meth.sig.returnType = ret) (hdg : decode cL_law pc = .ok (.ireturn, 1)) : VL p l e s m b below meth c D (lw_Z below #[Value.ref b] s) P pc lv [.int 1] :=
  fun ws H locs ls hW hS hD hP hl => va_forget (fun q hq => hS.2.2 q hq) (lw_ret C.1 C.2.1 hr C.2.2.2.2.2.2 hdg)
