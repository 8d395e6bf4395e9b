-- like bi
def bi (b : Bool) : Int32 := match b with | true => 1 | false => 0

