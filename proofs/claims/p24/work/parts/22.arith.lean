/-! arithmetic and branches over XW -/
section XA
variable {K : KX} {g : GP} {cc : ByteArray} {own : String} {nL : Nat} {ret : Option FieldType} {hh : List (Nat × Nat × Nat × Nat)} {fr lo mc ms : Nat} {Q : State → Prop} {M : MM} {a b pc : Nat} {L : List (Nat × Value)} {st : List Value}
theorem x_iadd (F : Fx K g cc own nL ret hh fr lo mc ms) {x y : Int32} (d : decode cc pc = .ok (.iadd, 1)) (kk : XW K g nL Q M a b (pc + 1) L (.int (x + y) :: st)) : XW K g nL Q M a b pc L (.int y :: .int x :: st) :=
  fun H lc ls hM hS hl => lv_iadd F.ex F.by_ d (kk H lc ls hM hS hl)
theorem x_isub (F : Fx K g cc own nL ret hh fr lo mc ms) {x y : Int32} (d : decode cc pc = .ok (.isub, 1)) (kk : XW K g nL Q M a b (pc + 1) L (.int (x - y) :: st)) : XW K g nL Q M a b pc L (.int y :: .int x :: st) :=
  fun H lc ls hM hS hl => lv_isub F.ex F.by_ d (kk H lc ls hM hS hl)
theorem x_imul (F : Fx K g cc own nL ret hh fr lo mc ms) {x y : Int32} (d : decode cc pc = .ok (.imul, 1)) (kk : XW K g nL Q M a b (pc + 1) L (.int (x * y) :: st)) : XW K g nL Q M a b pc L (.int y :: .int x :: st) :=
  fun H lc ls hM hS hl => lv_imul F.ex F.by_ d (kk H lc ls hM hS hl)
theorem x_iand (F : Fx K g cc own nL ret hh fr lo mc ms) {x y : Int32} (d : decode cc pc = .ok (.iand, 1)) (kk : XW K g nL Q M a b (pc + 1) L (.int (x &&& y) :: st)) : XW K g nL Q M a b pc L (.int y :: .int x :: st) :=
  fun H lc ls hM hS hl => lv_iand F.ex F.by_ d (kk H lc ls hM hS hl)
theorem x_ior (F : Fx K g cc own nL ret hh fr lo mc ms) {x y : Int32} (d : decode cc pc = .ok (.ior, 1)) (kk : XW K g nL Q M a b (pc + 1) L (.int (x ||| y) :: st)) : XW K g nL Q M a b pc L (.int y :: .int x :: st) :=
  fun H lc ls hM hS hl => lv_ior F.ex F.by_ d (kk H lc ls hM hS hl)
theorem x_ladd (F : Fx K g cc own nL ret hh fr lo mc ms) {x y : Int64} (d : decode cc pc = .ok (.ladd, 1)) (kk : XW K g nL Q M a b (pc + 1) L (.long (x + y) :: st)) : XW K g nL Q M a b pc L (.long y :: .long x :: st) :=
  fun H lc ls hM hS hl => lv_ladd F.ex F.by_ d (kk H lc ls hM hS hl)
theorem x_lsub (F : Fx K g cc own nL ret hh fr lo mc ms) {x y : Int64} (d : decode cc pc = .ok (.lsub, 1)) (kk : XW K g nL Q M a b (pc + 1) L (.long (x - y) :: st)) : XW K g nL Q M a b pc L (.long y :: .long x :: st) :=
  fun H lc ls hM hS hl => lv_lsub F.ex F.by_ d (kk H lc ls hM hS hl)
theorem x_land (F : Fx K g cc own nL ret hh fr lo mc ms) {x y : Int64} (d : decode cc pc = .ok (.land, 1)) (kk : XW K g nL Q M a b (pc + 1) L (.long (x &&& y) :: st)) : XW K g nL Q M a b pc L (.long y :: .long x :: st) :=
  fun H lc ls hM hS hl => lv_land F.ex F.by_ d (kk H lc ls hM hS hl)
theorem x_lor (F : Fx K g cc own nL ret hh fr lo mc ms) {x y : Int64} (d : decode cc pc = .ok (.lor, 1)) (kk : XW K g nL Q M a b (pc + 1) L (.long (x ||| y) :: st)) : XW K g nL Q M a b pc L (.long y :: .long x :: st) :=
  fun H lc ls hM hS hl => lv_lor F.ex F.by_ d (kk H lc ls hM hS hl)
theorem x_ishl (F : Fx K g cc own nL ret hh fr lo mc ms) {x y : Int32} (d : decode cc pc = .ok (.ishl, 1)) (kk : XW K g nL Q M a b (pc + 1) L (.int (x <<< (y &&& 31)) :: st)) : XW K g nL Q M a b pc L (.int y :: .int x :: st) :=
  fun H lc ls hM hS hl => lv_ishl F.ex F.by_ d (kk H lc ls hM hS hl)
theorem x_ishr (F : Fx K g cc own nL ret hh fr lo mc ms) {x y : Int32} (d : decode cc pc = .ok (.ishr, 1)) (kk : XW K g nL Q M a b (pc + 1) L (.int (x >>> (y &&& 31)) :: st)) : XW K g nL Q M a b pc L (.int y :: .int x :: st) :=
  fun H lc ls hM hS hl => lv_ishr F.ex F.by_ d (kk H lc ls hM hS hl)
theorem x_idiv (F : Fx K g cc own nL ret hh fr lo mc ms) {x y : Int32} (d : decode cc pc = .ok (.idiv, 1)) (hne : ¬ y = 0) (kk : XW K g nL Q M a b (pc + 1) L (.int (x / y) :: st)) : XW K g nL Q M a b pc L (.int y :: .int x :: st) :=
  fun H lc ls hM hS hl => lv_idiv F.ex F.by_ d hne (kk H lc ls hM hS hl)
theorem x_irem (F : Fx K g cc own nL ret hh fr lo mc ms) {x y : Int32} (d : decode cc pc = .ok (.irem, 1)) (hne : ¬ y = 0) (kk : XW K g nL Q M a b (pc + 1) L (.int (x - x / y * y) :: st)) : XW K g nL Q M a b pc L (.int y :: .int x :: st) :=
  fun H lc ls hM hS hl => lv_irem F.ex F.by_ d hne (kk H lc ls hM hS hl)
theorem x_ineg (F : Fx K g cc own nL ret hh fr lo mc ms) {x : Int32} (d : decode cc pc = .ok (.ineg, 1)) (kk : XW K g nL Q M a b (pc + 1) L (.int (-x) :: st)) : XW K g nL Q M a b pc L (.int x :: st) :=
  fun H lc ls hM hS hl => lv_ineg F.ex F.by_ d (kk H lc ls hM hS hl)
theorem x_i2l (F : Fx K g cc own nL ret hh fr lo mc ms) {x : Int32} (d : decode cc pc = .ok (.i2l, 1)) (kk : XW K g nL Q M a b (pc + 1) L (.long x.toInt64 :: st)) : XW K g nL Q M a b pc L (.int x :: st) :=
  fun H lc ls hM hS hl => lv_i2l F.ex F.by_ d rfl (kk H lc ls hM hS hl)
theorem x_l2i (F : Fx K g cc own nL ret hh fr lo mc ms) {x : Int64} (d : decode cc pc = .ok (.l2i, 1)) (kk : XW K g nL Q M a b (pc + 1) L (.int x.toInt32 :: st)) : XW K g nL Q M a b pc L (.long x :: st) :=
  fun H lc ls hM hS hl => lv_l2i F.ex F.by_ d rfl (kk H lc ls hM hS hl)
theorem x_iushr (F : Fx K g cc own nL ret hh fr lo mc ms) {x y : Int32} (d : decode cc pc = .ok (.iushr, 1)) (kk : XW K g nL Q M a b (pc + 1) L (.int (x.toUInt32 >>> (y.toUInt32 &&& Int32.toUInt32 31)).toInt32 :: st)) : XW K g nL Q M a b pc L (.int y :: .int x :: st) :=
  fun H lc ls hM hS hl => lv_iushr F.ex F.by_ d rfl (kk H lc ls hM hS hl)
theorem x_lshl (F : Fx K g cc own nL ret hh fr lo mc ms) {x : Int64} {y : Int32} (d : decode cc pc = .ok (.lshl, 1)) (kk : XW K g nL Q M a b (pc + 1) L (.long (x <<< (y.toInt64 &&& 63)) :: st)) : XW K g nL Q M a b pc L (.int y :: .long x :: st) :=
  fun H lc ls hM hS hl => lv_lshl F.ex F.by_ d rfl (kk H lc ls hM hS hl)
theorem x_lshr (F : Fx K g cc own nL ret hh fr lo mc ms) {x : Int64} {y : Int32} (d : decode cc pc = .ok (.lshr, 1)) (kk : XW K g nL Q M a b (pc + 1) L (.long (x >>> (y.toInt64 &&& 63)) :: st)) : XW K g nL Q M a b pc L (.int y :: .long x :: st) :=
  fun H lc ls hM hS hl => lv_lshr F.ex F.by_ d rfl (kk H lc ls hM hS hl)
theorem x_lushr (F : Fx K g cc own nL ret hh fr lo mc ms) {x : Int64} {y : Int32} (d : decode cc pc = .ok (.lushr, 1)) (kk : XW K g nL Q M a b (pc + 1) L (.long ((x.toUInt64 >>> (y.toInt64.toUInt64 &&& Int64.toUInt64 63)).toInt64) :: st)) : XW K g nL Q M a b pc L (.int y :: .long x :: st) :=
  fun H lc ls hM hS hl => lv_lushr F.ex F.by_ d rfl (kk H lc ls hM hS hl)
theorem x_lcmp (F : Fx K g cc own nL ret hh fr lo mc ms) {x y : Int64} (d : decode cc pc = .ok (.lcmp, 1)) (kk : XW K g nL Q M a b (pc + 1) L (.int (lg_cmp x y) :: st)) : XW K g nL Q M a b pc L (.long y :: .long x :: st) :=
  fun H lc ls hM hS hl => W.lcmp F.ex F.by_ d (kk H lc ls hM hS hl)
theorem x_if_eq (F : Fx K g cc own nL ret hh fr lo mc ms) (tgt : Nat) {x : Int32} {off : Int} (d : decode cc pc = .ok (.ifCond .eq off, 3)) (ht : (pc : Int) + off = (tgt : Int)) (kt : x = 0 → XW K g nL Q M a b tgt L (st)) (kf : ¬ x = 0 → XW K g nL Q M a b (pc + 3) L (st)) : XW K g nL Q M a b pc L (.int x :: st) :=
  fun H lc ls hM hS hl => lv_if_eq F.ex F.by_ d ht (fun h => kt h H lc ls hM hS hl) (fun h => kf h H lc ls hM hS hl)
theorem x_icmp_eq (F : Fx K g cc own nL ret hh fr lo mc ms) (tgt : Nat) {x y : Int32} {off : Int} (d : decode cc pc = .ok (.if_icmp .eq off, 3)) (ht : (pc : Int) + off = (tgt : Int)) (kt : x = y → XW K g nL Q M a b tgt L (st)) (kf : ¬ x = y → XW K g nL Q M a b (pc + 3) L (st)) : XW K g nL Q M a b pc L (.int y :: .int x :: st) :=
  fun H lc ls hM hS hl => lv_icmp_eq F.ex F.by_ d ht (fun h => kt h H lc ls hM hS hl) (fun h => kf h H lc ls hM hS hl)
theorem x_if_ne (F : Fx K g cc own nL ret hh fr lo mc ms) (tgt : Nat) {x : Int32} {off : Int} (d : decode cc pc = .ok (.ifCond .ne off, 3)) (ht : (pc : Int) + off = (tgt : Int)) (kt : ¬ x = 0 → XW K g nL Q M a b tgt L (st)) (kf : x = 0 → XW K g nL Q M a b (pc + 3) L (st)) : XW K g nL Q M a b pc L (.int x :: st) :=
  fun H lc ls hM hS hl => lv_if_ne F.ex F.by_ d ht (fun h => kt h H lc ls hM hS hl) (fun h => kf h H lc ls hM hS hl)
theorem x_icmp_ne (F : Fx K g cc own nL ret hh fr lo mc ms) (tgt : Nat) {x y : Int32} {off : Int} (d : decode cc pc = .ok (.if_icmp .ne off, 3)) (ht : (pc : Int) + off = (tgt : Int)) (kt : ¬ x = y → XW K g nL Q M a b tgt L (st)) (kf : x = y → XW K g nL Q M a b (pc + 3) L (st)) : XW K g nL Q M a b pc L (.int y :: .int x :: st) :=
  fun H lc ls hM hS hl => lv_icmp_ne F.ex F.by_ d ht (fun h => kt h H lc ls hM hS hl) (fun h => kf h H lc ls hM hS hl)
theorem x_if_lt (F : Fx K g cc own nL ret hh fr lo mc ms) (tgt : Nat) {x : Int32} {off : Int} (d : decode cc pc = .ok (.ifCond .lt off, 3)) (ht : (pc : Int) + off = (tgt : Int)) (kt : x < 0 → XW K g nL Q M a b tgt L (st)) (kf : ¬ x < 0 → XW K g nL Q M a b (pc + 3) L (st)) : XW K g nL Q M a b pc L (.int x :: st) :=
  fun H lc ls hM hS hl => lv_if_lt F.ex F.by_ d ht (fun h => kt h H lc ls hM hS hl) (fun h => kf h H lc ls hM hS hl)
theorem x_icmp_lt (F : Fx K g cc own nL ret hh fr lo mc ms) (tgt : Nat) {x y : Int32} {off : Int} (d : decode cc pc = .ok (.if_icmp .lt off, 3)) (ht : (pc : Int) + off = (tgt : Int)) (kt : x < y → XW K g nL Q M a b tgt L (st)) (kf : ¬ x < y → XW K g nL Q M a b (pc + 3) L (st)) : XW K g nL Q M a b pc L (.int y :: .int x :: st) :=
  fun H lc ls hM hS hl => lv_icmp_lt F.ex F.by_ d ht (fun h => kt h H lc ls hM hS hl) (fun h => kf h H lc ls hM hS hl)
theorem x_if_ge (F : Fx K g cc own nL ret hh fr lo mc ms) (tgt : Nat) {x : Int32} {off : Int} (d : decode cc pc = .ok (.ifCond .ge off, 3)) (ht : (pc : Int) + off = (tgt : Int)) (kt : 0 ≤ x → XW K g nL Q M a b tgt L (st)) (kf : ¬ 0 ≤ x → XW K g nL Q M a b (pc + 3) L (st)) : XW K g nL Q M a b pc L (.int x :: st) :=
  fun H lc ls hM hS hl => lv_if_ge F.ex F.by_ d ht (fun h => kt h H lc ls hM hS hl) (fun h => kf h H lc ls hM hS hl)
theorem x_icmp_ge (F : Fx K g cc own nL ret hh fr lo mc ms) (tgt : Nat) {x y : Int32} {off : Int} (d : decode cc pc = .ok (.if_icmp .ge off, 3)) (ht : (pc : Int) + off = (tgt : Int)) (kt : y ≤ x → XW K g nL Q M a b tgt L (st)) (kf : ¬ y ≤ x → XW K g nL Q M a b (pc + 3) L (st)) : XW K g nL Q M a b pc L (.int y :: .int x :: st) :=
  fun H lc ls hM hS hl => lv_icmp_ge F.ex F.by_ d ht (fun h => kt h H lc ls hM hS hl) (fun h => kf h H lc ls hM hS hl)
theorem x_if_gt (F : Fx K g cc own nL ret hh fr lo mc ms) (tgt : Nat) {x : Int32} {off : Int} (d : decode cc pc = .ok (.ifCond .gt off, 3)) (ht : (pc : Int) + off = (tgt : Int)) (kt : 0 < x → XW K g nL Q M a b tgt L (st)) (kf : ¬ 0 < x → XW K g nL Q M a b (pc + 3) L (st)) : XW K g nL Q M a b pc L (.int x :: st) :=
  fun H lc ls hM hS hl => lv_if_gt F.ex F.by_ d ht (fun h => kt h H lc ls hM hS hl) (fun h => kf h H lc ls hM hS hl)
theorem x_icmp_gt (F : Fx K g cc own nL ret hh fr lo mc ms) (tgt : Nat) {x y : Int32} {off : Int} (d : decode cc pc = .ok (.if_icmp .gt off, 3)) (ht : (pc : Int) + off = (tgt : Int)) (kt : y < x → XW K g nL Q M a b tgt L (st)) (kf : ¬ y < x → XW K g nL Q M a b (pc + 3) L (st)) : XW K g nL Q M a b pc L (.int y :: .int x :: st) :=
  fun H lc ls hM hS hl => lv_icmp_gt F.ex F.by_ d ht (fun h => kt h H lc ls hM hS hl) (fun h => kf h H lc ls hM hS hl)
theorem x_if_le (F : Fx K g cc own nL ret hh fr lo mc ms) (tgt : Nat) {x : Int32} {off : Int} (d : decode cc pc = .ok (.ifCond .le off, 3)) (ht : (pc : Int) + off = (tgt : Int)) (kt : x ≤ 0 → XW K g nL Q M a b tgt L (st)) (kf : ¬ x ≤ 0 → XW K g nL Q M a b (pc + 3) L (st)) : XW K g nL Q M a b pc L (.int x :: st) :=
  fun H lc ls hM hS hl => lv_if_le F.ex F.by_ d ht (fun h => kt h H lc ls hM hS hl) (fun h => kf h H lc ls hM hS hl)
theorem x_icmp_le (F : Fx K g cc own nL ret hh fr lo mc ms) (tgt : Nat) {x y : Int32} {off : Int} (d : decode cc pc = .ok (.if_icmp .le off, 3)) (ht : (pc : Int) + off = (tgt : Int)) (kt : x ≤ y → XW K g nL Q M a b tgt L (st)) (kf : ¬ x ≤ y → XW K g nL Q M a b (pc + 3) L (st)) : XW K g nL Q M a b pc L (.int y :: .int x :: st) :=
  fun H lc ls hM hS hl => lv_icmp_le F.ex F.by_ d ht (fun h => kt h H lc ls hM hS hl) (fun h => kf h H lc ls hM hS hl)
theorem x_acmp_eq (F : Fx K g cc own nL ret hh fr lo mc ms) (tgt : Nat) {rx ry : Option Nat} {off : Int} (d : decode cc pc = .ok (.if_acmp .eq off, 3)) (ht : (pc : Int) + off = (tgt : Int)) (kt : rx = ry → XW K g nL Q M a b tgt L (st)) (kf : ¬ rx = ry → XW K g nL Q M a b (pc + 3) L (st)) : XW K g nL Q M a b pc L (va_rf ry :: va_rf rx :: st) :=
  fun H lc ls hM hS hl => lv_acmp_eq F.ex F.by_ d ht (fun h => kt h H lc ls hM hS hl) (fun h => kf h H lc ls hM hS hl)
theorem x_acmp_ne (F : Fx K g cc own nL ret hh fr lo mc ms) (tgt : Nat) {rx ry : Option Nat} {off : Int} (d : decode cc pc = .ok (.if_acmp .ne off, 3)) (ht : (pc : Int) + off = (tgt : Int)) (kt : ¬ rx = ry → XW K g nL Q M a b tgt L (st)) (kf : rx = ry → XW K g nL Q M a b (pc + 3) L (st)) : XW K g nL Q M a b pc L (va_rf ry :: va_rf rx :: st) :=
  fun H lc ls hM hS hl => lv_acmp_ne F.ex F.by_ d ht (fun h => kt h H lc ls hM hS hl) (fun h => kf h H lc ls hM hS hl)
theorem x_ifnull (F : Fx K g cc own nL ret hh fr lo mc ms) {x : Nat} {off : Int} (d : decode cc pc = .ok (.ifnull off, 3)) (kk : XW K g nL Q M a b (pc + 3) L (st)) : XW K g nL Q M a b pc L (.ref x :: st) :=
  fun H lc ls hM hS hl => lv_ifnull F.ex F.by_ d (kk H lc ls hM hS hl)
theorem x_ifnullN (F : Fx K g cc own nL ret hh fr lo mc ms) (tgt : Nat) {off : Int} (d : decode cc pc = .ok (.ifnull off, 3)) (ht : (pc : Int) + off = (tgt : Int)) (kk : XW K g nL Q M a b tgt L (st)) : XW K g nL Q M a b pc L (.null :: st) :=
  fun H lc ls hM hS hl => lv_ifnullN F.ex F.by_ d ht (kk H lc ls hM hS hl)
theorem x_ifnonnull (F : Fx K g cc own nL ret hh fr lo mc ms) (tgt : Nat) {x : Nat} {off : Int} (d : decode cc pc = .ok (.ifnonnull off, 3)) (ht : (pc : Int) + off = (tgt : Int)) (kk : XW K g nL Q M a b tgt L (st)) : XW K g nL Q M a b pc L (.ref x :: st) :=
  fun H lc ls hM hS hl => lv_ifnonnull F.ex F.by_ d ht (kk H lc ls hM hS hl)
theorem x_ifnonnullN (F : Fx K g cc own nL ret hh fr lo mc ms) {off : Int} (d : decode cc pc = .ok (.ifnonnull off, 3)) (kk : XW K g nL Q M a b (pc + 3) L (st)) : XW K g nL Q M a b pc L (.null :: st) :=
  fun H lc ls hM hS hl => lv_ifnonnullN F.ex F.by_ d (kk H lc ls hM hS hl)
theorem x_tableIn (F : Fx K g cc own nL ret hh fr lo mc ms) (tgt : Nat) {dflt lw hi : Int} {offs : Array Int} {len : Nat} {x : Int32} {off : Int} (d : decode cc pc = .ok (.tableswitch dflt lw hi offs, len)) (h1 : ¬ x.toInt < lw) (h2 : ¬ hi < x.toInt) (ho : offs[(x.toInt - lw).toNat]? = some off) (ht : (pc : Int) + off = (tgt : Int)) (kk : XW K g nL Q M a b tgt L (st)) : XW K g nL Q M a b pc L (.int x :: st) :=
  fun H lc ls hM hS hl => lv_tableIn F.ex F.by_ d h1 h2 ho ht (kk H lc ls hM hS hl)
theorem x_tableOut (F : Fx K g cc own nL ret hh fr lo mc ms) (tgt : Nat) {dflt lw hi : Int} {offs : Array Int} {len : Nat} {x : Int32} (d : decode cc pc = .ok (.tableswitch dflt lw hi offs, len)) (h : x.toInt < lw ∨ hi < x.toInt) (ht : (pc : Int) + dflt = (tgt : Int)) (kk : XW K g nL Q M a b tgt L (st)) : XW K g nL Q M a b pc L (.int x :: st) :=
  fun H lc ls hM hS hl => lv_tableOut F.ex F.by_ d h ht (kk H lc ls hM hS hl)
end XA
