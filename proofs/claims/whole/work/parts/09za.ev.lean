/-! The group, worked out on plain numbers. A form (a, b, c) of discriminant -d is kept as the number (a * 64 + t) * 1024 + c, with t the rest of b modulo 2 * a. -/
noncomputable def nst {β : Type} (x : Nat) (k : Nat → β) : β := Nat.rec (motive := fun _ => β) (k 0) (fun n _ => k (Nat.succ n)) x
noncomputable def lmap {α β : Type} (f : α → β) (l : List α) : List β := List.rec (motive := fun _ => List β) [] (fun x _ ih => f x :: ih) l
noncomputable def lall {α : Type} (f : α → Bool) (l : List α) : Bool := List.rec (motive := fun _ => Bool) true (fun x _ ih => cond (f x) ih false) l
noncomputable def lnth {α : Type} (d : α) (l : List α) : Nat → α := List.rec (motive := fun _ => Nat → α) (fun _ => d) (fun x _ ih i => Nat.rec (motive := fun _ => α) x (fun n _ => ih n) i) l
noncomputable def lidx (key : Nat) (l : List Nat) : Nat := List.rec (motive := fun _ => Nat) 0 (fun x _ ih => cond (Nat.beq x key) 0 (Nat.succ ih)) l
noncomputable def lapp {α : Type} (l m : List α) : List α := List.rec (motive := fun _ => List α) m (fun x _ ih => x :: ih) l
noncomputable def llen {α : Type} (l : List α) : Nat := List.rec (motive := fun _ => Nat) 0 (fun _ _ ih => Nat.succ ih) l
/-- for all numbers below n -/
noncomputable def nall (f : Nat → Bool) (n : Nat) : Bool := Nat.rec (motive := fun _ => Bool) true (fun i ih => cond (f i) ih false) n
/-- the reduced form of (a, t), as a * 64 + t -/
noncomputable def rN (d n : Nat) : Nat → Nat → Nat :=
  Nat.rec (motive := fun _ => Nat → Nat → Nat) (fun _ _ => 0) (fun _ ih a t =>
    nst (cond (Nat.ble t a) t (Nat.sub (Nat.mul 2 a) t)) fun m =>
    nst (Nat.div (Nat.add (Nat.mul m m) d) (Nat.mul 4 a)) fun c =>
    cond (Nat.ble a c) (cond (Nat.beq c a) (Nat.add (Nat.mul a 64) m) (Nat.add (Nat.mul a 64) t))
      (nst (cond (Nat.ble t a) (Nat.mod (Nat.sub (Nat.mul 2 c) (Nat.mod m (Nat.mul 2 c))) (Nat.mul 2 c)) (Nat.mod m (Nat.mul 2 c))) fun u => ih c u)) n
/-- the class's middle number -/
noncomputable def midN (d x1 x2 l2 r2 m : Nat) (t : Nat) : Nat → Nat :=
  Nat.rec (motive := fun _ => Nat → Nat) (fun M => M) (fun _ ih M =>
    cond (Nat.beq (Nat.mod M r2) (Nat.mod x2 r2))
      (cond (Nat.beq (Nat.mod (Nat.sub (Nat.add (Nat.mul (Nat.add x1 x2) M) d) (Nat.mul x1 x2)) m) 0) M (nst (Nat.add M l2) ih))
      (nst (Nat.add M l2) ih)) t
noncomputable def upN (K a t : Nat) : Nat := cond (Nat.ble t a) (Nat.add t K) (Nat.sub (Nat.add t K) (Nat.mul 2 a))
/-- the class's product -/
noncomputable def cpN (d a1 t1 a2 t2 : Nat) : Nat :=
  nst (Nat.gcd (Nat.gcd a1 a2) (Nat.div (Nat.add t1 t2) 2)) fun e =>
  nst (Nat.div a1 e) fun l => nst (Nat.div a2 e) fun r => nst (Nat.mul l r) fun F =>
  nst (Nat.mul 2 (Nat.mul F e)) fun K =>
  nst (upN K a1 t1) fun x1 => nst (upN K a2 t2) fun x2 =>
  nst (midN d x1 x2 (Nat.mul 2 l) (Nat.mul 2 r) (Nat.mul 2 K) r x1) fun M =>
  cond (Nat.beq (Nat.mod (Nat.add (Nat.mul M M) d) (Nat.mul 4 F)) 0) (rN d 40 F (Nat.mod M (Nat.mul 2 F))) 0
/-- the value at (x, y), and a middle number of a form that begins with it: u, w with x * w - u * y = 1 -/
noncomputable def valN (a t c x y : Nat) : Nat := Nat.sub (Nat.add (Nat.add (Nat.mul a (Nat.mul x x)) (Nat.mul c (Nat.mul y y))) (Nat.mul t (Nat.mul x y))) (cond (Nat.ble t a) 0 (Nat.mul 2 (Nat.mul a (Nat.mul x y))))
noncomputable def mdlN (a t c x y u w : Nat) : Nat := Nat.sub (Nat.add (Nat.add (Nat.mul 2 (Nat.mul a (Nat.mul x u))) (Nat.mul 2 (Nat.mul c (Nat.mul y w)))) (Nat.mul t (Nat.add (Nat.mul x w) (Nat.mul u y)))) (cond (Nat.ble t a) 0 (Nat.mul 2 (Nat.mul a (Nat.add (Nat.mul x w) (Nat.mul u y)))))
/-- the reference's loop, over the rests modulo f -/
noncomputable def bthN (g2 f2 t1 n : Nat) : Nat → Nat := Nat.rec (motive := fun _ => Nat → Nat) (fun _ => 0) (fun _ ih B => cond (Nat.beq (Nat.mod B f2) t1) B (nst (Nat.add B g2) ih)) n
noncomputable def endN (d f t1 g b : Nat) : Nat :=
  nst (bthN (Nat.mul 2 g) (Nat.mul 2 f) t1 f b) fun B =>
  nst (Nat.mul f g) fun h =>
  cond (and (Nat.beq (Nat.mod B (Nat.mul 2 f)) t1) (and (Nat.beq (Nat.mod B (Nat.mul 2 g)) (Nat.mod b (Nat.mul 2 g))) (Nat.beq (Nat.mod (Nat.add (Nat.mul B B) d) (Nat.mul 4 h)) 0))) (rN d 40 h (Nat.mod B (Nat.mul 2 h))) 1
noncomputable def tryN (f g : Nat) (yes no : Nat) : Nat := cond (Nat.beq (Nat.gcd g f) 1) yes no
/-- the reference's product -/
noncomputable def rpN (d a1 t1 a t c : Nat) : Nat :=
  tryN a1 c (endN d a1 t1 c (cond (Nat.ble t a) (Nat.sub (Nat.mul 2 c) t) (Nat.sub (Nat.mul 2 a) t)))
  (tryN a1 a (endN d a1 t1 a t)
  (nst (valN a t c 1 1) fun g => tryN a1 g (endN d a1 t1 g (mdlN a t c 1 1 0 1))
  (nst (valN a t c 1 2) fun g => tryN a1 g (endN d a1 t1 g (mdlN a t c 1 2 0 1))
  (nst (valN a t c 2 1) fun g => tryN a1 g (endN d a1 t1 g (mdlN a t c 2 1 1 1))
  (nst (valN a t c 1 3) fun g => tryN a1 g (endN d a1 t1 g (mdlN a t c 1 3 0 1))
  (nst (valN a t c 2 3) fun g => tryN a1 g (endN d a1 t1 g (mdlN a t c 2 3 1 2))
  (nst (valN a t c 3 1) fun g => tryN a1 g (endN d a1 t1 g (mdlN a t c 3 1 2 1))
  (nst (valN a t c 3 2) fun g => tryN a1 g (endN d a1 t1 g (mdlN a t c 3 2 1 1)) 2))))))))
/-- the list -/
noncomputable def rowN (d a m : Nat) : List Nat :=
  nst (Nat.add (Nat.mul m m) d) fun s =>
  cond (Nat.beq (Nat.mod s (Nat.mul 4 a)) 0)
    (nst (Nat.div s (Nat.mul 4 a)) fun c =>
      cond (and (Nat.ble a c) (Nat.beq (Nat.gcd (Nat.gcd a m) c) 1))
        (Nat.add (Nat.mul (Nat.add (Nat.mul a 64) m) 1024) c :: cond (or (Nat.beq m 0) (or (Nat.beq m a) (Nat.beq a c))) [] [Nat.add (Nat.mul (Nat.add (Nat.mul a 64) (Nat.sub (Nat.mul 2 a) m)) 1024) c]) [])
    []
noncomputable def msN (d a m n : Nat) : List Nat := Nat.rec (motive := fun _ => Nat → List Nat) (fun _ => []) (fun _ ih m => lapp (rowN d a m) (ih (Nat.succ m))) n m
noncomputable def asN (d a n : Nat) : List Nat := Nat.rec (motive := fun _ => Nat → List Nat) (fun _ => []) (fun _ ih a => cond (Nat.ble (Nat.mul 3 (Nat.mul a a)) d) (lapp (msN d a 0 (Nat.succ a)) (ih (Nat.succ a))) []) n a
noncomputable def keyN (e : Nat) : Nat := Nat.div e 1024
noncomputable def aN (e : Nat) : Nat := Nat.div e 65536
noncomputable def tN (e : Nat) : Nat := Nat.mod (Nat.div e 1024) 64
noncomputable def cN (e : Nat) : Nat := Nat.mod e 1024
noncomputable def entN (d : Nat) (keys : List Nat) (e1 e2 : Nat) : Nat :=
  nst (aN e1) fun a1 => nst (tN e1) fun t1 => nst (aN e2) fun a2 => nst (tN e2) fun t2 => nst (cN e2) fun c2 =>
  nst (cpN d a1 t1 a2 t2) fun k => cond (Nat.beq k (rpN d a1 t1 a2 t2 c2)) (lidx k keys) 99
noncomputable def tabN (d : Nat) (L keys : List Nat) : List (List Nat) := lmap (fun e1 => lmap (fun e2 => entN d keys e1 e2) L) L
noncomputable def atN (T : List (List Nat)) (j k : Nat) : Nat := lnth 0 (lnth [] T j) k
/-- the opposite -/
noncomputable def oppN (keys : List Nat) (h k e : Nat) : Nat := nst (lidx (Nat.add (Nat.mul (aN e) 64) (Nat.mod (Nat.sub (Nat.mul 2 (aN e)) (tN e)) (Nat.mul 2 (aN e)))) keys) fun i => cond (Nat.ble h i) k i
/-- the least n with x = 0, from n on -/
noncomputable def ordN (T : List (List Nat)) (k : Nat) (n : Nat) : Nat → Nat → Nat := Nat.rec (motive := fun _ => Nat → Nat → Nat) (fun _ _ => 0) (fun _ ih x i => cond (Nat.beq x 0) i (nst (atN T x k) fun y => nst (Nat.succ i) fun i => ih y i)) n
noncomputable def cntN (f : Nat → Bool) (n : Nat) : Nat := Nat.rec (motive := fun _ => Nat) 0 (fun i ih => cond (f i) (Nat.succ ih) ih) n
/-- 0, 1, .. below n -/
noncomputable def msN1 (n : Nat) : List Nat := Nat.rec (motive := fun _ => Nat → List Nat) (fun _ => []) (fun _ ih i => i :: ih (Nat.succ i)) n 0
noncomputable def chkT (h : Nat) (L keys : List Nat) (T : List (List Nat)) : Bool :=
  cond (nall (fun j => nall (fun k => Nat.blt (atN T j k) h) h) h)
  (cond (nall (fun k => cond (Nat.beq (atN T 0 k) k) (Nat.beq (atN T k 0) k) false) h)
  (cond (nall (fun k => Nat.beq (lidx 0 (lnth [] T k)) (oppN keys h k (lnth 0 L k))) h)
  (cond (nall (fun k => nst (ordN T k h k 1) fun o => cond (Nat.beq o 0) false (Nat.beq (Nat.mod h o) 0)) h)
  (nst (cntN (fun j => Nat.blt (lidx j (lmap (fun k => atN T k k) (msN1 h))) h) h) fun q => cond (Nat.beq q 0) false (Nat.beq (Nat.div h q) (cntN (fun k => Nat.beq (oppN keys h k (lnth 0 L k)) k) h))) false) false) false) false
noncomputable def chkD (d : Nat) : Bool :=
  (fun L : List Nat => nst (llen L) fun h => cond (Nat.ble h 40) ((fun keys : List Nat => chkT h L keys (tabN d L keys)) (lmap keyN L)) true) (asN d 1 26)
noncomputable def chkR (d n : Nat) : Bool := nall (fun i => nst (Nat.add d i) fun d => cond (or (Nat.beq (Nat.mod d 4) 0) (Nat.beq (Nat.mod d 4) 3)) (chkD d) true) n
