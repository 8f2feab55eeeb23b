import java.io.*; import java.util.*;
public class Replay {
  static TemplateHouse x; static int bad=0, n=0; static String id="";
  static void tape(byte[] b){ for(int i=0;i<b.length;i+=20){int m=Math.min(20,b.length-i);int[] w=new int[5];for(int j=0;j<m;j++)w[j/4]|=(b[i+j]&255)<<(24-8*(j%4));x.feed(w[0],w[1],w[2],w[3],w[4]);x.end(m);} }
  static byte[] hex(String s){ byte[] b=new byte[s.length()/2-0]; for(int i=0;i<b.length;i++)b[i]=(byte)Integer.parseInt(s.substring(2*i,2*i+2),16); return b; }
  static void due(String what,Object got,Object want){ n++; if(!String.valueOf(got).equals(String.valueOf(want))){ bad++; if(bad<40) System.out.println("scenario "+id+": "+what+" got "+got+" want "+want);} }
  public static void main(String[] a) throws Exception {
    BufferedReader r=new BufferedReader(new FileReader(a[0])); String l;
    while((l=r.readLine())!=null){
      String[] p=l.split(" ",-1);
      try {
      switch(p[0]){
        case "N": x=new TemplateHouse(); id=p[1]; break;
        case "T": tape(hex(p[1])); break;
        case "F": due("file",x.file(Integer.parseInt(p[1])),true); break;
        case "L": { String g; try { g=""+x.load(Integer.parseInt(p[1])); } catch(IllegalArgumentException e){ g=x.fault(0)+","+x.fault(1)+","+x.fault(2);} due("load",g,p[2]); break; }
        case "vb": x.truth(p[1].equals("1")); break;
        case "vn": x.number(Long.parseLong(p[1])); break;
        case "vw": x.word(); break;
        case "vl": x.list(); break;
        case "vm": x.map(); break;
        case "vB": x.bean(); break;
        case "add": due("add",x.add(Integer.parseInt(p[1]),Integer.parseInt(p[2])),true); break;
        case "entry": due("entry",x.entry(Integer.parseInt(p[1]),Integer.parseInt(p[2])),true); break;
        case "prop": due("prop",x.property(Integer.parseInt(p[1]),Integer.parseInt(p[2]),Integer.parseInt(p[3])),true); break;
        case "attr": due("attr",x.attribute(Integer.parseInt(p[1]))>0,true); break;
        case "width": x.width(Integer.parseInt(p[1])); break;
        case "B": { String g=""; try { x.begin(); } catch(IllegalStateException e){g="ISE";} catch(NoSuchElementException e){g="NSEE";} due("begin",g,p[1]); break; }
        case "R": { String g; try { g=""+x.run(Integer.parseInt(p[1])); } catch(IllegalStateException e){g="ISE";} due("run",g,p[2]); break; }
        case "S": due("look 3..7",x.look(3)+","+x.look(4)+","+x.look(5)+","+x.look(6)+","+x.look(7),p[1]); break;
        case "C": { StringBuilder s=new StringBuilder(); for(int i=0;x.byteOf(i)>=0;i++) s.append(String.format("%02x",x.byteOf(i))); due("text",new String(hex(s.toString()),"ISO-8859-1"),new String(hex(p[1]),"ISO-8859-1"));
           StringBuilder e=new StringBuilder(); for(int i=0;i<400&&x.error(i,0)!=-1;i++) e.append(x.error(i,0)+","+x.error(i,1)+","+x.error(i,2)+";"); due("errors",e,p[2]);
           StringBuilder k=new StringBuilder(); for(int i=0;i<1000&&x.looked(i,0)!=-2;i++) k.append(x.looked(i,0)+","+x.looked(i,1)+";"); due("looks",k,p[3]); break; }
      }
      } catch(RuntimeException ex){ bad++; if(bad<40){ System.out.println("scenario "+id+" line "+l+" threw "+ex); ex.printStackTrace(System.out);} }
    }
    System.out.println(n+" checked, "+bad+" bad"); if(bad>0) System.exit(1);
  }
}
